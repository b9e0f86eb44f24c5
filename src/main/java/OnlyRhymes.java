/** People who can answer only what chimes with what they were asked; README.md says how it is used. */
public final class OnlyRhymes {
    public static final int NONE = -1, BAD = -2, NO = -3, FULL = -4;

    private static final int MOST_WORDS = 10;
    private static final int MOST_PEOPLE = 5;
    private static final int MOST_HEARD = 6;
    private static final int MOST_UNDOS = 8;
    private static final int MOST_BYTES = 150;
    private static final int ENDINGS = 8;
    private static final int MEANINGS = 8;
    private static final int COSTS = 21;
    private static final int KINDS = 6;
    private static final int IMAGES = 2;
    private static final int WORD_SETS = 1 << MOST_WORDS;
    private static final int MEANING_SETS = 1 << MEANINGS;
    private static final int SEEDS = 1000000;
    private static final int MOST_TALKS = 60;
    private static final int ODDS = 10;

    private static final int OTHER_BAD = -10;
    private static final int NOT_SO_MANY = -5;
    private static final int AHEAD_OF_FAULTS = -10;

    /** The pairs of unlike endings, 10 a and b, rising. */
    private static final int[] PAIRS = {
        1, 2, 3, 4, 5, 6, 7, 12, 13, 14, 15, 16, 17, 23, 24, 25, 26, 27,
        34, 35, 36, 37, 45, 46, 47, 56, 57, 67
    };

    private final Tongue now = new Tongue();
    /** A place to try things in, so that what is refused or only asked changes nothing. */
    private final Tongue draft = new Tongue();
    private final Tongue[] images = new Tongue[IMAGES];
    private int imagesKept;
    private final Rhymer[] kinds = new Rhymer[KINDS];
    private final Reader text = new Reader();
    private final Duel duel = new Duel();
    private final Cover cover = new Cover();

    private int bads;
    private int nos;
    private int fulls;
    private long above;
    private long below = 1;

    private final int[] clashes = new int[MOST_WORDS];
    private final int[] tally = new int[MOST_WORDS + 1];
    private final int[] sayableByPair = new int[PAIRS.length];
    private final int[] chosenPairs = new int[2];

    public OnlyRhymes() {
        for (int i = 0; i < IMAGES; i++) {
            images[i] = new Tongue();
        }
        kinds[0] = new Rhymer();
        kinds[1] = new Half();
        kinds[2] = new Echo();
        kinds[3] = new Slow();
        kinds[4] = new Poet();
        kinds[5] = new Card();
    }

    // ---- a tongue

    public int tongue() {
        int words = now.words;
        now.empty();
        return words;
    }

    public int word(int ending, int meaning, int cost) {
        if (!fits(ending, ENDINGS) || !fits(meaning, MEANINGS) || !fits(cost, COSTS)) {
            return refuse(BAD);
        }
        if (now.words >= MOST_WORDS) {
            return refuse(FULL);
        }
        return now.addWord(ending, meaning, cost);
    }

    public int alike(int a, int b, int is) {
        if (!fits(a, ENDINGS) || !fits(b, ENDINGS) || a == b || !fits(is, 2)) {
            return refuse(BAD);
        }
        boolean was = now.areAlike(a, b);
        now.setAlike(a, b, is == 1);
        return was ? 1 : 0;
    }

    public int person(int kind, int want) {
        if (!fits(kind, KINDS) || !fits(want, MEANINGS)) {
            return refuse(BAD);
        }
        if (now.people >= MOST_PEOPLE) {
            return refuse(FULL);
        }
        return now.addPerson(kind, want);
    }

    public int type(int c) {
        if (!fits(c, 128)) {
            return refuse(BAD);
        }
        if (text.length >= MOST_BYTES) {
            return refuse(FULL);
        }
        return text.put(c);
    }

    public int clear() {
        int had = text.length;
        text.length = 0;
        return had;
    }

    public int read() {
        int fault = text.parseInto(draft);
        if (fault != NONE) {
            return AHEAD_OF_FAULTS - fault;
        }
        now.copyFrom(draft);
        return text.items;
    }

    // ---- asks

    public int ask(int person, int word, int answer) {
        if (!isPerson(person) || !isWord(word) || !isWord(answer)) {
            return refuse(BAD);
        }
        if ((answerBits(person, word) >> answer & 1) == 0) {
            return refuse(NO);
        }
        now.say(answer);
        return now.meaning[answer];
    }

    public int rest() {
        int said = Integer.bitCount(now.said);
        now.said = 0;
        now.undos = 0;
        return said;
    }

    public int undo() {
        if (now.undos == 0) {
            return refuse(NO);
        }
        now.takeBack();
        return Integer.bitCount(now.said);
    }

    public int of(int word, int what) {
        if (!isWord(word) || !fits(what, 4)) {
            return refuse(BAD);
        }
        switch (what) {
            case 0: return now.ending[word];
            case 1: return now.meaning[word];
            case 2: return now.cost[word];
            default: return now.said >> word & 1;
        }
    }

    public int about(int person, int what) {
        if (!isPerson(person) || !fits(what, 2)) {
            return refuse(BAD);
        }
        return what == 0 ? now.kind[person] : now.want[person];
    }

    public int answers(int person, int word, int what) {
        if (!isPerson(person) || !isWord(word) || !fits(what, 3)) {
            return refuse(BAD);
        }
        switch (what) {
            case 0: return kinds[now.kind[person]].chimes(now, now.want[person], word);
            case 1: return answerBits(person, word);
            default: return sayableBits(person, word);
        }
    }

    // ---- what to ask

    public int asks(int person, int meaning) {
        if (!isPerson(person) || !fits(meaning, MEANINGS)) {
            return refuse(BAD);
        }
        int words = 0;
        for (int w = 0; w < now.words; w++) {
            words |= (sayableBits(person, w) >> meaning & 1) << w;
        }
        return words;
    }

    public int fewest(int person, int meanings) {
        if (!isPerson(person) || !fits(meanings, MEANING_SETS)) {
            return refuse(BAD);
        }
        for (int w = 0; w < now.words; w++) {
            cover.sayable[w] = sayableBits(person, w);
            cover.price[w] = 1;
        }
        return cover.cheapest(now.words, meanings);
    }

    public int errand(int meanings, int what) {
        if (!fits(meanings, MEANING_SETS) || !fits(what, 2)) {
            refuse(BAD);
            return OTHER_BAD;
        }
        for (int w = 0; w < now.words; w++) {
            cover.price[w] = now.cost[w];
            cover.sayable[w] = 0;
            for (int p = 0; p < now.people; p++) {
                cover.sayable[w] |= sayableBits(p, w);
            }
        }
        int words = cover.cheapest(now.words, meanings);
        if (words == NONE || what == 1) {
            return words;
        }
        return now.costOf(words);
    }

    public int hear(int word, int answer) {
        if (!isWord(word) || answer != NONE && !isWord(answer)) {
            return refuse(BAD);
        }
        if (now.heard >= MOST_HEARD) {
            return refuse(FULL);
        }
        return now.addHeard(word, answer);
    }

    public int forget() {
        int heard = now.heard;
        now.heard = 0;
        return heard;
    }

    public int wants(int kind) {
        if (!fits(kind, KINDS)) {
            return refuse(BAD);
        }
        return wantBits(kind);
    }

    public int next(int kind, int what) {
        if (!fits(kind, KINDS) || !fits(what, 2)) {
            return refuse(BAD);
        }
        int left = wantBits(kind);
        int best = NONE;
        int fewestLeft = 0;
        for (int w = 0; w < now.words && left != 0; w++) {
            int most = mostLeft(kind, left, w);
            if (best == NONE || most < fewestLeft) {
                best = w;
                fewestLeft = most;
            }
        }
        return what == 0 ? best : fewestLeft;
    }

    // ---- two, wills

    public int two(int a, int b, int word, int what) {
        if (!isPerson(a) || !isPerson(b) || a == b || !isWord(word) || !fits(what, 3)) {
            return refuse(BAD);
        }
        for (int w = 0; w < now.words; w++) {
            duel.chimesOfFirst[w] = kinds[now.kind[a]].chimes(now, now.want[a], w);
            duel.chimesOfSecond[w] = kinds[now.kind[b]].chimes(now, now.want[b], w);
        }
        duel.begin(now.words, now.said, word);
        if (what == 0) {
            return duel.firstWins() ? 1 : 0;
        }
        duel.findEnds();
        return what == 1 ? duel.longest : duel.shortest;
    }

    public int will(int kind, int want) {
        if (!fits(kind, KINDS) || !fits(want, MEANINGS)) {
            return refuse(BAD);
        }
        fillClashes(kind, want);
        int best = 0;
        int sets = 1 << now.words;
        for (int set = 1; set < sets; set++) {
            if (Integer.bitCount(set) > Integer.bitCount(best) && isPeaceful(set)) {
                best = set;
            }
        }
        return best;
    }

    public int worst(int person) {
        if (!isPerson(person)) {
            return refuse(BAD);
        }
        int worst = NONE;
        int fewestMeanings = MEANINGS + 1;
        for (int w = 0; w < now.words; w++) {
            int meanings = Integer.bitCount(sayableBits(person, w));
            if (meanings < fewestMeanings) {
                worst = w;
                fewestMeanings = meanings;
            }
        }
        return worst;
    }

    public int allow(int person, int meanings, int i) {
        if (!isPerson(person) || !fits(meanings, MEANING_SETS) || i < NONE) {
            refuse(BAD);
            return OTHER_BAD;
        }
        fillSayableByPair(person);
        int pairs = choosePairs(sayableByAnyWord(now, person), meanings);
        if (pairs == NONE || i == NONE) {
            return pairs;
        }
        return i < pairs ? chosenPairs[i] : NOT_SO_MANY;
    }

    // ---- slips, lots

    public int misheard(int person, int word, int meaning, int c) {
        if (!isPerson(person) || !isWord(word) || !fits(meaning, MEANINGS) || !fits(c, ODDS + 1)) {
            return refuse(BAD);
        }
        int other = word + 1 < now.words ? word + 1 : 0;
        int asTold = sayableBits(person, word) >> meaning & 1;
        int asHeard = sayableBits(person, other) >> meaning & 1;
        setFraction((ODDS - c) * asTold + c * asHeard);
        return 1;
    }

    public int talks(int seed, int n) {
        if (!fits(seed, SEEDS) || !fits(n, MOST_TALKS + 1)) {
            return refuse(BAD);
        }
        if (now.words == 0 || now.people == 0) {
            return NONE;
        }
        long x = seed;
        int said = now.said;
        int answered = 0;
        for (int i = 0; i < n; i++) {
            x = (x * 1103515245L + 12345L) % 2147483648L;
            int asked = (int) (x / 65536L % now.words);
            int person = i % now.people;
            int chimes = kinds[now.kind[person]].chimes(now, now.want[person], asked);
            int answer = now.firstOf(chimes & ~said, now.want[person]);
            if (answer == NONE) {
                said = 0;
            } else {
                said |= 1 << answer;
                answered++;
            }
        }
        return answered;
    }

    // ---- what there is

    public long part(int what) {
        if (!fits(what, 2)) {
            return refuse(BAD);
        }
        return what == 0 ? above : below;
    }

    public int image(int i) {
        if (!fits(i, IMAGES)) {
            return refuse(BAD);
        }
        images[i].copyFrom(now);
        imagesKept |= 1 << i;
        return 1;
    }

    public int from(int i) {
        if (!fits(i, IMAGES)) {
            return refuse(BAD);
        }
        if ((imagesKept >> i & 1) == 0) {
            return refuse(NO);
        }
        now.copyFrom(images[i]);
        return 1;
    }

    public int status(int what) {
        switch (what) {
            case 0: return bads;
            case 1: return nos;
            case 2: return fulls;
            default:
                refuse(BAD);
                return -1;
        }
    }

    public int count(int what) {
        if (!fits(what, 7)) {
            return refuse(BAD);
        }
        return howMany(what);
    }

    public long digest() {
        long h = 929;
        for (int what = 0; what < 7; what++) {
            h = 31 * h + howMany(what);
        }
        h = now.digestFrom(h);
        h = 31 * h + above;
        return 31 * h + below;
    }

    // ---- helpers of the calls

    private static boolean fits(int number, int bound) {
        return number >= 0 && number < bound;
    }

    private boolean isWord(int word) {
        return fits(word, now.words);
    }

    private boolean isPerson(int person) {
        return fits(person, now.people);
    }

    private int refuse(int reason) {
        if (reason == BAD) {
            bads++;
        } else if (reason == NO) {
            nos++;
        } else {
            fulls++;
        }
        return reason;
    }

    private int howMany(int what) {
        switch (what) {
            case 0: return now.words;
            case 1: return now.people;
            case 2: return now.alikePairs();
            case 3: return Integer.bitCount(now.said);
            case 4: return now.heard;
            case 5: return now.undos;
            default: return text.length;
        }
    }

    private int answerBits(int person, int asked) {
        return kinds[now.kind[person]].chimes(now, now.want[person], asked) & ~now.said;
    }

    private int sayableBits(int person, int asked) {
        return now.meaningsOf(answerBits(person, asked));
    }

    private int sayableByAnyWord(Tongue t, int person) {
        Rhymer ear = kinds[t.kind[person]];
        int words = 0;
        for (int w = 0; w < t.words; w++) {
            words |= ear.chimes(t, t.want[person], w);
        }
        return t.meaningsOf(words & ~t.said);
    }

    /** What one of a kind would answer who wants a meaning, nothing being said. */
    private int reply(int kind, int want, int asked) {
        return now.firstOf(kinds[kind].chimes(now, want, asked), want);
    }

    private int wantBits(int kind) {
        int wanted = MEANING_SETS - 1;
        for (int i = 0; i < now.heard; i++) {
            for (int m = 0; m < MEANINGS; m++) {
                if (reply(kind, m, now.heardWord[i]) != now.heardAnswer[i]) {
                    wanted &= ~(1 << m);
                }
            }
        }
        return wanted;
    }

    /** How many of the meanings are left by the answer to a word that leaves the most. */
    private int mostLeft(int kind, int meanings, int asked) {
        for (int i = 0; i < tally.length; i++) {
            tally[i] = 0;
        }
        int most = 0;
        for (int m = 0; m < MEANINGS; m++) {
            if ((meanings >> m & 1) == 1) {
                // silence is an answer too: NONE has the place ahead of word 0
                int place = reply(kind, m, asked) + 1;
                tally[place]++;
                most = Math.max(most, tally[place]);
            }
        }
        return most;
    }

    private void fillClashes(int kind, int want) {
        for (int w = 0; w < now.words; w++) {
            clashes[w] = kinds[kind].chimes(now, want, w) & ~(1 << w);
        }
    }

    /** As each word of the set is taken in turn, this looks either way. */
    private boolean isPeaceful(int set) {
        for (int w = 0; w < now.words; w++) {
            if ((set >> w & 1) == 1 && (clashes[w] & set) != 0) {
                return false;
            }
        }
        return true;
    }

    /** Whether two words chime turns on one pair of endings, so what two pairs give is what either gives. */
    private int choosePairs(int sayableByNone, int meanings) {
        if ((meanings & ~sayableByNone) == 0) {
            return 0;
        }
        for (int p = 0; p < PAIRS.length; p++) {
            if ((meanings & ~sayableByPair[p]) == 0) {
                chosenPairs[0] = PAIRS[p];
                return 1;
            }
        }
        for (int p = 0; p < PAIRS.length; p++) {
            for (int q = p + 1; q < PAIRS.length; q++) {
                if ((meanings & ~(sayableByPair[p] | sayableByPair[q])) == 0) {
                    chosenPairs[0] = PAIRS[p];
                    chosenPairs[1] = PAIRS[q];
                    return 2;
                }
            }
        }
        return NONE;
    }

    private void fillSayableByPair(int person) {
        draft.copyFrom(now);
        for (int p = 0; p < PAIRS.length; p++) {
            int a = PAIRS[p] / 10;
            int b = PAIRS[p] % 10;
            boolean was = draft.areAlike(a, b);
            draft.setAlike(a, b, true);
            sayableByPair[p] = sayableByAnyWord(draft, person);
            draft.setAlike(a, b, was);
        }
    }

    private void setFraction(int tenths) {
        above = tenths;
        below = ODDS;
        for (int d = ODDS; d > 1; d--) {
            if (above % d == 0 && below % d == 0) {
                above /= d;
                below /= d;
            }
        }
    }

    /** All that an image keeps. */
    private static final class Tongue {
        final int[] ending = new int[MOST_WORDS];
        final int[] meaning = new int[MOST_WORDS];
        final int[] cost = new int[MOST_WORDS];
        int words;
        /** For each ending the endings that are alike, as bits. */
        final int[] alikeTo = new int[ENDINGS];
        final int[] kind = new int[MOST_PEOPLE];
        final int[] want = new int[MOST_PEOPLE];
        int people;
        int said;
        final int[] saidAhead = new int[MOST_UNDOS];
        int undos;
        final int[] heardWord = new int[MOST_HEARD];
        final int[] heardAnswer = new int[MOST_HEARD];
        int heard;

        void empty() {
            words = 0;
            people = 0;
            said = 0;
            undos = 0;
            heard = 0;
            for (int e = 0; e < ENDINGS; e++) {
                alikeTo[e] = 0;
            }
        }

        void copyFrom(Tongue t) {
            System.arraycopy(t.ending, 0, ending, 0, MOST_WORDS);
            System.arraycopy(t.meaning, 0, meaning, 0, MOST_WORDS);
            System.arraycopy(t.cost, 0, cost, 0, MOST_WORDS);
            words = t.words;
            System.arraycopy(t.alikeTo, 0, alikeTo, 0, ENDINGS);
            System.arraycopy(t.kind, 0, kind, 0, MOST_PEOPLE);
            System.arraycopy(t.want, 0, want, 0, MOST_PEOPLE);
            people = t.people;
            said = t.said;
            System.arraycopy(t.saidAhead, 0, saidAhead, 0, MOST_UNDOS);
            undos = t.undos;
            System.arraycopy(t.heardWord, 0, heardWord, 0, MOST_HEARD);
            System.arraycopy(t.heardAnswer, 0, heardAnswer, 0, MOST_HEARD);
            heard = t.heard;
        }

        int addWord(int itsEnding, int itsMeaning, int itsCost) {
            if (words >= MOST_WORDS) {
                return FULL;
            }
            ending[words] = itsEnding;
            meaning[words] = itsMeaning;
            cost[words] = itsCost;
            undos = 0;
            return words++;
        }

        int addPerson(int itsKind, int itsWant) {
            if (people >= MOST_PEOPLE) {
                return FULL;
            }
            kind[people] = itsKind;
            want[people] = itsWant;
            return people++;
        }

        int addHeard(int asked, int answer) {
            if (heard >= MOST_HEARD) {
                return FULL;
            }
            heardWord[heard] = asked;
            heardAnswer[heard] = answer;
            return ++heard;
        }

        boolean areAlike(int a, int b) {
            return (alikeTo[a] >> b & 1) == 1;
        }

        void setAlike(int a, int b, boolean is) {
            if (is) {
                alikeTo[a] |= 1 << b;
                alikeTo[b] |= 1 << a;
            } else {
                alikeTo[a] &= ~(1 << b);
                alikeTo[b] &= ~(1 << a);
            }
        }

        int alikePairs() {
            int eitherWay = 0;
            for (int e = 0; e < ENDINGS; e++) {
                eitherWay += Integer.bitCount(alikeTo[e]);
            }
            return eitherWay / 2;
        }

        void say(int answer) {
            if (undos == MOST_UNDOS) {
                // the oldest one is given up
                System.arraycopy(saidAhead, 1, saidAhead, 0, MOST_UNDOS - 1);
                undos--;
            }
            saidAhead[undos] = said;
            undos++;
            said |= 1 << answer;
        }

        void takeBack() {
            if (undos > 0) {
                undos--;
                said = saidAhead[undos];
            }
        }

        int wordsEnding(int endings) {
            int set = 0;
            for (int w = 0; w < words; w++) {
                set |= (endings >> ending[w] & 1) << w;
            }
            return set;
        }

        int wordsMeaning(int wanted) {
            int set = 0;
            for (int w = 0; w < words; w++) {
                if (meaning[w] == wanted) {
                    set |= 1 << w;
                }
            }
            return set;
        }

        int meaningsOf(int set) {
            int meanings = 0;
            for (int w = 0; w < words; w++) {
                if ((set >> w & 1) == 1) {
                    meanings |= 1 << meaning[w];
                }
            }
            return meanings;
        }

        int costOf(int set) {
            int sum = 0;
            for (int w = 0; w < words; w++) {
                if ((set >> w & 1) == 1) {
                    sum += cost[w];
                }
            }
            return sum;
        }

        /** The first word of a set that has a meaning, else its first word, else NONE. */
        int firstOf(int set, int wanted) {
            int first = NONE;
            for (int w = 0; w < words; w++) {
                if ((set >> w & 1) == 1) {
                    if (meaning[w] == wanted) {
                        return w;
                    }
                    if (first == NONE) {
                        first = w;
                    }
                }
            }
            return first;
        }

        long digestFrom(long start) {
            long h = start;
            for (int w = 0; w < words; w++) {
                h = 31 * h + ending[w];
                h = 31 * h + meaning[w];
                h = 31 * h + cost[w];
                h = 31 * h + (said >> w & 1);
            }
            for (int p = 0; p < PAIRS.length; p++) {
                h = 31 * h + (areAlike(PAIRS[p] / 10, PAIRS[p] % 10) ? 1 : 0);
            }
            for (int p = 0; p < people; p++) {
                h = 31 * h + kind[p];
                h = 31 * h + want[p];
            }
            for (int i = 0; i < heard; i++) {
                h = 31 * h + heardWord[i];
                h = 31 * h + heardAnswer[i];
            }
            return h;
        }
    }

    // ---- the kinds, each under the one told

    private static class Rhymer {
        /** The words that chime with the one asked, as bits. */
        int chimes(Tongue t, int want, int asked) {
            return t.wordsEnding(1 << t.ending[asked]) & ~(1 << asked);
        }
    }

    private static class Half extends Rhymer {
        int chimes(Tongue t, int want, int asked) {
            return super.chimes(t, want, asked) | t.wordsEnding(t.alikeTo[t.ending[asked]]);
        }
    }

    private static class Echo extends Rhymer {
        int chimes(Tongue t, int want, int asked) {
            return super.chimes(t, want, asked) | 1 << asked;
        }
    }

    private static final class Slow extends Echo {
        int chimes(Tongue t, int want, int asked) {
            int lesser = (1 << asked) - 1;
            return super.chimes(t, want, asked) & ~lesser;
        }
    }

    private static final class Poet extends Half {
        int chimes(Tongue t, int want, int asked) {
            return super.chimes(t, want, asked) & ~t.wordsMeaning(t.meaning[asked]);
        }
    }

    private static final class Card extends Half {
        int chimes(Tongue t, int want, int asked) {
            return super.chimes(t, want, asked) | t.wordsMeaning(want);
        }
    }

    /** The cheapest set of words by which meanings can be said. */
    private static final class Cover {
        final int[] sayable = new int[MOST_WORDS];
        final int[] price = new int[MOST_WORDS];
        private final int[] covered = new int[WORD_SETS];
        private final int[] spent = new int[WORD_SETS];

        /** Of like ones the least bits, as sets come rising; NONE. */
        int cheapest(int words, int meanings) {
            int best = NONE;
            int sets = Math.min(1 << words, WORD_SETS);
            // places 0 are never written: no words cover nothing, for nothing
            for (int set = 0; set < sets; set++) {
                if (set > 0) {
                    int less = set & (set - 1);
                    int w = Integer.numberOfTrailingZeros(set);
                    covered[set] = covered[less] | sayable[w];
                    spent[set] = spent[less] + price[w];
                }
                if ((meanings & ~covered[set]) == 0 && (best == NONE || spent[set] < spent[best])) {
                    best = set;
                }
            }
            return best;
        }
    }

    /**
     * A talk of two by turns. Each answer is a word more that is said, so the set of said words tells
     * whose turn it is, and a set with the word answered last is all that the rest of a talk depends on.
     */
    private static final class Duel {
        final int[] chimesOfFirst = new int[MOST_WORDS];
        final int[] chimesOfSecond = new int[MOST_WORDS];
        /** For each set of said words: words answered last, as bits. */
        private final int[] lasts = new int[WORD_SETS];
        private int words;
        private int saidAtFirst;
        private int asked;
        int longest;
        int shortest;

        void begin(int howManyWords, int said, int word) {
            words = Math.min(howManyWords, MOST_WORDS);
            saidAtFirst = said & (WORD_SETS - 1);
            asked = word;
        }

        private int answered(int set) {
            return Integer.bitCount(set) - Integer.bitCount(saidAtFirst);
        }

        private int[] chimesOfNext(int set) {
            return answered(set) % 2 == 0 ? chimesOfFirst : chimesOfSecond;
        }

        /** From the ends of talks back: lasts has the words after which the one whose turn it is wins. */
        boolean firstWins() {
            for (int set = (1 << words) - 1; set >= saidAtFirst; set--) {
                if ((set & saidAtFirst) == saidAtFirst) {
                    int[] chimes = chimesOfNext(set);
                    int traps = traps(set);
                    lasts[set] = 0;
                    for (int last = 0; last < words; last++) {
                        if ((chimes[last] & traps) != 0) {
                            lasts[set] |= 1 << last;
                        }
                    }
                }
            }
            return (lasts[saidAtFirst] >> asked & 1) == 1;
        }

        /** The words not said yet after which the other one loses. */
        private int traps(int set) {
            int traps = 0;
            for (int x = 0; x < words; x++) {
                int bit = 1 << x;
                if ((set & bit) == 0 && (lasts[set | bit] & bit) == 0) {
                    traps |= bit;
                }
            }
            return traps;
        }

        /** From the first ask on: lasts has the words that can have been answered last. */
        void findEnds() {
            for (int set = 0; set < 1 << words; set++) {
                lasts[set] = 0;
            }
            lasts[saidAtFirst] = 1 << asked;
            longest = 0;
            shortest = MOST_WORDS;
            for (int set = saidAtFirst; set < 1 << words; set++) {
                if (lasts[set] != 0) {
                    goOn(set);
                }
            }
        }

        private void goOn(int set) {
            int[] chimes = chimesOfNext(set);
            int said = answered(set);
            int answers = 0;
            for (int last = 0; last < words; last++) {
                if ((lasts[set] >> last & 1) == 1) {
                    int choices = chimes[last] & ~set;
                    answers |= choices;
                    if (choices == 0) {
                        longest = Math.max(longest, said);
                        shortest = Math.min(shortest, said);
                    }
                }
            }
            for (int x = 0; x < words; x++) {
                int bit = 1 << x;
                if ((answers & bit) != 0) {
                    lasts[set | bit] |= bit;
                }
            }
        }
    }

    /** The text, and how a tongue is read from it. */
    private static final class Reader {
        private static final int END = 0;
        private static final int LETTERS = 1;
        private static final int NUMBER = 2;
        private static final int STOP = 3;
        private static final int NOTHING = 4;

        private final int[] bytes = new int[MOST_BYTES];
        int length;
        /** How many items the last parse took. */
        int items;
        private int place;
        /** The token that was taken last: where it begins, what it is, its number. */
        private int start;
        private int token;
        private int number;

        int put(int c) {
            if (length >= MOST_BYTES) {
                return FULL;
            }
            bytes[length] = c;
            length++;
            return length;
        }

        /** The FAULT, or NONE: then the tongue is as told. */
        int parseInto(Tongue t) {
            t.empty();
            place = 0;
            take();
            if (!isLetters("tongue") || !takesStop()) {
                return start;
            }
            items = 1;
            // each item has a byte at least
            for (int i = 0; i < MOST_BYTES; i++) {
                take();
                if (token == END) {
                    return NONE;
                }
                if (!takesItem(t)) {
                    return start;
                }
                items++;
            }
            return NONE;
        }

        private boolean takesItem(Tongue t) {
            if (isLetters("word")) {
                return t.words < MOST_WORDS && takesWord(t);
            }
            if (isLetters("alike")) {
                return takesAlike(t);
            }
            if (isLetters("person")) {
                return t.people < MOST_PEOPLE && takesPerson(t);
            }
            return false;
        }

        private boolean takesWord(Tongue t) {
            if (!takesBelow(ENDINGS)) {
                return false;
            }
            int ending = number;
            if (!takesBelow(MEANINGS)) {
                return false;
            }
            int meaning = number;
            if (!takesBelow(COSTS)) {
                return false;
            }
            t.addWord(ending, meaning, number);
            return takesStop();
        }

        private boolean takesAlike(Tongue t) {
            if (!takesBelow(ENDINGS)) {
                return false;
            }
            int a = number;
            if (!takesBelow(ENDINGS) || number == a) {
                return false;
            }
            t.setAlike(a, number, true);
            return takesStop();
        }

        private boolean takesPerson(Tongue t) {
            if (!takesBelow(KINDS)) {
                return false;
            }
            int kind = number;
            if (!takesBelow(MEANINGS)) {
                return false;
            }
            t.addPerson(kind, number);
            return takesStop();
        }

        private boolean takesStop() {
            take();
            return token == STOP;
        }

        private boolean takesBelow(int bound) {
            take();
            return token == NUMBER && number < bound;
        }

        private boolean isLetters(String letters) {
            if (token != LETTERS || place - start != letters.length()) {
                return false;
            }
            for (int i = 0; i < letters.length(); i++) {
                if (bytes[start + i] != letters.charAt(i)) {
                    return false;
                }
            }
            return true;
        }

        private void take() {
            while (place < length && bytes[place] == ' ') {
                place++;
            }
            start = place;
            token = place < length ? sortOf(bytes[place]) : END;
            if (token == STOP || token == NOTHING) {
                place++;
            } else if (token != END) {
                while (place < length && sortOf(bytes[place]) == token) {
                    place++;
                }
            }
            if (token == NUMBER) {
                settleNumber();
            }
        }

        private static int sortOf(int c) {
            if (c >= 'a' && c <= 'z') {
                return LETTERS;
            }
            if (c >= '0' && c <= '9') {
                return NUMBER;
            }
            return c == ';' ? STOP : NOTHING;
        }

        /** With a third figure it is a token that can stand nowhere. */
        private void settleNumber() {
            if (place - start > 2) {
                token = NOTHING;
            }
            number = 0;
            for (int i = start; i < place && i < start + 2; i++) {
                number = number * 10 + bytes[i] - '0';
            }
        }
    }
}
