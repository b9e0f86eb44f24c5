import java.util.ArrayDeque;
import java.util.ArrayList;
import java.util.Deque;
import java.util.List;
import java.util.function.IntPredicate;
import java.util.regex.Matcher;
import java.util.regex.Pattern;

/**
 * The document once more, as slowly and plainly as it can be said (lists, recursion, every set tried),
 * to be compared with the class. It shares no code and no method with it.
 */
final class Model {
  record Word(int ending, int meaning, int cost) {}

  record Person(int kind, int want) {}

  record Heard(int word, int answer) {}

  /** All that an image keeps. */
  private static final class State {
    List<Word> words = new ArrayList<>();
    boolean[][] alike = new boolean[8][8];
    List<Person> people = new ArrayList<>();
    List<Integer> said = new ArrayList<>();
    List<Heard> heard = new ArrayList<>();
    Deque<List<Integer>> undos = new ArrayDeque<>();

    State copy() {
      State s = new State();
      s.words.addAll(words);
      for (int a = 0; a < 8; a++) s.alike[a] = alike[a].clone();
      s.people.addAll(people);
      s.said.addAll(said);
      s.heard.addAll(heard);
      s.undos.addAll(undos);
      return s;
    }
  }

  private State s = new State();
  private final State[] images = new State[2];
  private String text = "";
  private long above = 0, below = 1;
  private final int[] status = new int[3];

  private int bad() { status[0]++; return -2; }
  private int no() { status[1]++; return -3; }
  private int full() { status[2]++; return -4; }
  private static boolean in(int v, int lo, int hi) { return v >= lo && v <= hi; }
  private boolean isWord(int w) { return in(w, 0, s.words.size() - 1); }
  private boolean isPerson(int p) { return in(p, 0, s.people.size() - 1); }

  // ---- the terms

  private boolean chimes(int kind, int want, int w, int x) {
    Word asked = s.words.get(w), other = s.words.get(x);
    boolean rhymes = asked.ending() == other.ending() && w != x;
    boolean half = rhymes || s.alike[asked.ending()][other.ending()];
    boolean echo = rhymes || w == x;
    return switch (kind) {
      case 0 -> rhymes;
      case 1 -> half;
      case 2 -> echo;
      case 3 -> echo && !(x < w);
      case 4 -> half && asked.meaning() != other.meaning();
      case 5 -> half || other.meaning() == want;
      default -> throw new IllegalStateException();
    };
  }

  private List<Integer> chimes(int kind, int want, int w) {
    List<Integer> all = new ArrayList<>();
    for (int x = 0; x < s.words.size(); x++) if (chimes(kind, want, w, x)) all.add(x);
    return all;
  }

  private List<Integer> answersOf(int p, int w, List<Integer> said) {
    List<Integer> all = chimes(s.people.get(p).kind(), s.people.get(p).want(), w);
    all.removeAll(said);
    return all;
  }

  private boolean canSay(int p, int w, int meaning) {
    return answersOf(p, w, s.said).stream().anyMatch(x -> s.words.get(x).meaning() == meaning);
  }

  private static int bits(List<Integer> list) {
    return list.stream().mapToInt(x -> 1 << x).reduce(0, (a, b) -> a | b);
  }

  private static int bits(int n, IntPredicate p) {
    int b = 0;
    for (int i = 0; i < n; i++) if (p.test(i)) b += 1 << i;
    return b;
  }

  // ---- a tongue

  int tongue() {
    int n = s.words.size();
    s = new State();
    return n;
  }

  int word(int e, int m, int c) {
    if (!in(e, 0, 7) || !in(m, 0, 7) || !in(c, 0, 20)) return bad();
    if (s.words.size() == 10) return full();
    s.words.add(new Word(e, m, c));
    s.undos.clear();
    return s.words.size() - 1;
  }

  int alike(int a, int b, int is) {
    if (!in(a, 0, 7) || !in(b, 0, 7) || a == b || !in(is, 0, 1)) return bad();
    int was = s.alike[a][b] ? 1 : 0;
    s.alike[a][b] = s.alike[b][a] = is == 1;
    return was;
  }

  int person(int k, int w) {
    if (!in(k, 0, 5) || !in(w, 0, 7)) return bad();
    if (s.people.size() == 5) return full();
    s.people.add(new Person(k, w));
    return s.people.size() - 1;
  }

  int type(int c) {
    if (!in(c, 0, 127)) return bad();
    if (text.length() == 150) return full();
    text += (char) c;
    return text.length();
  }

  int clear() {
    int n = text.length();
    text = "";
    return n;
  }

  private static final class Fault extends Exception {
    final int place;
    Fault(int place) { super(null, null, false, false); this.place = place; }
  }

  private List<String> tokens;
  private List<Integer> places;
  private int at;

  int read() {
    tokens = new ArrayList<>();
    places = new ArrayList<>();
    Matcher m = Pattern.compile("[a-z]+|[0-9]+|[^ ]", Pattern.DOTALL).matcher(text);
    while (m.find()) {
      tokens.add(m.group());
      places.add(m.start());
    }
    at = 0;
    State old = s;
    s = new State();
    try {
      expect("tongue");
      expect(";");
      int items = 1;
      while (at < tokens.size()) {
        item();
        expect(";");
        items++;
      }
      return items;
    } catch (Fault f) {
      s = old;
      return -10 - f.place;
    }
  }

  private int place() { return at < places.size() ? places.get(at) : text.length(); }

  private void expect(String token) throws Fault {
    if (at >= tokens.size() || !tokens.get(at).equals(token)) throw new Fault(place());
    at++;
  }

  private int number(int most, int butNot) throws Fault {
    if (at >= tokens.size() || !tokens.get(at).matches("[0-9][0-9]?")) throw new Fault(place());
    int v = Integer.parseInt(tokens.get(at));
    if (v > most || v == butNot) throw new Fault(place());
    at++;
    return v;
  }

  private void item() throws Fault {
    String token = tokens.get(at);
    if (token.equals("word") && s.words.size() < 10) {
      at++;
      int e = number(7, -1), m = number(7, -1), c = number(20, -1);
      s.words.add(new Word(e, m, c));
    } else if (token.equals("alike")) {
      at++;
      int a = number(7, -1), b = number(7, a);
      s.alike[a][b] = s.alike[b][a] = true;
    } else if (token.equals("person") && s.people.size() < 5) {
      at++;
      int k = number(5, -1), w = number(7, -1);
      s.people.add(new Person(k, w));
    } else {
      throw new Fault(place());
    }
  }

  // ---- asks

  int ask(int p, int w, int a) {
    if (!isPerson(p) || !isWord(w) || !isWord(a)) return bad();
    if (!answersOf(p, w, s.said).contains(a)) return no();
    s.undos.addLast(new ArrayList<>(s.said));
    if (s.undos.size() > 8) s.undos.removeFirst();
    s.said.add(a);
    return s.words.get(a).meaning();
  }

  int rest() {
    int n = s.said.size();
    s.said = new ArrayList<>();
    s.undos.clear();
    return n;
  }

  int undo() {
    if (s.undos.isEmpty()) return no();
    s.said = new ArrayList<>(s.undos.removeLast());
    return s.said.size();
  }

  int of(int w, int what) {
    if (!isWord(w) || !in(what, 0, 3)) return bad();
    Word x = s.words.get(w);
    return new int[] {x.ending(), x.meaning(), x.cost(), s.said.contains(w) ? 1 : 0}[what];
  }

  int about(int p, int what) {
    if (!isPerson(p) || !in(what, 0, 1)) return bad();
    return what == 0 ? s.people.get(p).kind() : s.people.get(p).want();
  }

  int answers(int p, int w, int what) {
    if (!isPerson(p) || !isWord(w) || !in(what, 0, 2)) return bad();
    if (what == 0) return bits(answersOf(p, w, List.of()));
    if (what == 1) return bits(answersOf(p, w, s.said));
    return bits(8, m -> canSay(p, w, m));
  }

  // ---- what to ask

  int asks(int p, int m) {
    if (!isPerson(p) || !in(m, 0, 7)) return bad();
    return bits(s.words.size(), w -> canSay(p, w, m));
  }

  int fewest(int p, int meanings) {
    if (!isPerson(p) || !in(meanings, 0, 255)) return bad();
    int n = s.words.size();
    int[] can = new int[n];
    for (int w = 0; w < n; w++) can[w] = answers(p, w, 2);
    for (int size = 0; size <= n; size++)
      for (int set = 0; set < 1 << n; set++)
        if (Integer.bitCount(set) == size && (union(can, set) & meanings) == meanings) return set;
    return -1;
  }

  private static int union(int[] rows, int set) {
    int u = 0;
    for (int w = 0; w < rows.length; w++) if ((set & 1 << w) != 0) u |= rows[w];
    return u;
  }

  int errand(int meanings, int what) {
    if (!in(meanings, 0, 255) || !in(what, 0, 1)) { bad(); return -10; }
    int n = s.words.size();
    int[] can = new int[n];
    for (int w = 0; w < n; w++) for (int p = 0; p < s.people.size(); p++) can[w] |= answers(p, w, 2);
    int most = s.words.stream().mapToInt(Word::cost).sum();
    for (int sum = 0; sum <= most; sum++)
      for (int set = 0; set < 1 << n; set++)
        if (cost(set) == sum && (union(can, set) & meanings) == meanings) return what == 0 ? sum : set;
    return -1;
  }

  private int cost(int set) {
    int c = 0;
    for (int w = 0; w < s.words.size(); w++) if ((set & 1 << w) != 0) c += s.words.get(w).cost();
    return c;
  }

  int hear(int w, int a) {
    if (!isWord(w) || !(a == -1 || isWord(a))) return bad();
    if (s.heard.size() == 6) return full();
    s.heard.add(new Heard(w, a));
    return s.heard.size();
  }

  int forget() {
    int n = s.heard.size();
    s.heard.clear();
    return n;
  }

  private int first(List<Integer> from, int want) {
    for (int x : from) if (s.words.get(x).meaning() == want) return x;
    return from.isEmpty() ? -1 : from.get(0);
  }

  private boolean fits(int kind, int m, List<Heard> heard) {
    for (Heard h : heard) if (first(chimes(kind, m, h.word()), m) != h.answer()) return false;
    return true;
  }

  int wants(int kind) {
    if (!in(kind, 0, 5)) return bad();
    return bits(8, m -> fits(kind, m, s.heard));
  }

  int next(int kind, int what) {
    if (!in(kind, 0, 5) || !in(what, 0, 1)) return bad();
    if (wants(kind) == 0) return what == 0 ? -1 : 0;
    int best = -1, least = 0;
    for (int w = 0; w < s.words.size(); w++) {
      int most = 0;
      for (int a = -1; a < s.words.size(); a++) {
        List<Heard> more = new ArrayList<>(s.heard);
        more.add(new Heard(w, a));
        most = Math.max(most, Integer.bitCount(bits(8, m -> fits(kind, m, more))));
      }
      if (best < 0 || most < least) {
        best = w;
        least = most;
      }
    }
    return what == 0 ? best : least;
  }

  // ---- two, wills

  /** What is best for the one whose turn it is: 0 wins (1) or loses (0); 1, 2: answers more. */
  private int play(int p, int q, int last, List<Integer> said, int what, int[][] known) {
    int key = bits(said) * 10 + last;
    int side = p < q ? 0 : 1;
    if (known[side][key] != 0) return known[side][key] - 1;
    List<Integer> outcomes = new ArrayList<>();
    for (int x : answersOf(p, last, said)) {
      List<Integer> more = new ArrayList<>(said);
      more.add(x);
      int then = play(q, p, x, more, what, known);
      outcomes.add(what == 0 ? 1 - then : 1 + then);
    }
    int best = outcomes.stream().mapToInt(v -> v).reduce(what == 2 ? Integer::min : Integer::max).orElse(0);
    known[side][key] = best + 1;
    return best;
  }

  int two(int a, int b, int w, int what) {
    if (!isPerson(a) || !isPerson(b) || a == b || !isWord(w) || !in(what, 0, 2)) return bad();
    return play(a, b, w, s.said, what, new int[2][10240]);
  }

  int will(int kind, int want) {
    if (!in(kind, 0, 5) || !in(want, 0, 7)) return bad();
    int n = s.words.size();
    boolean[][] chime = new boolean[n][n];
    for (int w = 0; w < n; w++) for (int x = 0; x < n; x++) chime[w][x] = chimes(kind, want, w, x);
    for (int size = n; size > 0; size--)
      for (int set = 0; set < 1 << n; set++)
        if (Integer.bitCount(set) == size && quiet(chime, set)) return set;
    return 0;
  }

  private static boolean quiet(boolean[][] chime, int set) {
    for (int w = 0; w < chime.length; w++)
      for (int x = 0; x < chime.length; x++)
        if (w != x && (set & 1 << w) != 0 && (set & 1 << x) != 0 && chime[w][x]) return false;
    return true;
  }

  int worst(int p) {
    if (!isPerson(p)) return bad();
    for (int size = 0; size <= 8; size++)
      for (int w = 0; w < s.words.size(); w++)
        if (Integer.bitCount(answers(p, w, 2)) == size) return w;
    return -1;
  }

  int allow(int p, int meanings, int i) {
    if (!isPerson(p) || !in(meanings, 0, 255) || i < -1) { bad(); return -10; }
    List<Integer> row = allowed(p, meanings, 0, List.of(), 0);
    if (row == null) row = allowed(p, meanings, 1, List.of(), 0);
    if (row == null) row = allowed(p, meanings, 2, List.of(), 0);
    if (row == null) return -1;
    if (i == -1) return row.size();
    return i < row.size() ? row.get(i) : -5;
  }

  private List<Integer> allowed(int p, int meanings, int more, List<Integer> row, int from) {
    if (more == 0) {
      int can = 0;
      for (int w = 0; w < s.words.size(); w++) can |= answers(p, w, 2);
      return (can & meanings) == meanings ? row : null;
    }
    for (int code = from; code < 78; code++) {
      int a = code / 10, b = code % 10;
      if (b > 7 || a >= b || s.alike[a][b]) continue;
      s.alike[a][b] = s.alike[b][a] = true;
      List<Integer> longer = new ArrayList<>(row);
      longer.add(code);
      List<Integer> got = allowed(p, meanings, more - 1, longer, code + 1);
      s.alike[a][b] = s.alike[b][a] = false;
      if (got != null) return got;
    }
    return null;
  }

  // ---- slips, lots

  int misheard(int p, int w, int m, int c) {
    if (!isPerson(p) || !isWord(w) || !in(m, 0, 7) || !in(c, 0, 10)) return bad();
    int chance = 0;
    if (canSay(p, w, m)) chance += 10 - c;
    if (canSay(p, (w + 1) % s.words.size(), m)) chance += c;
    int g = java.math.BigInteger.valueOf(chance).gcd(java.math.BigInteger.TEN).intValue();
    above = chance / g;
    below = 10 / g;
    return 1;
  }

  int talks(int seed, int n) {
    if (!in(seed, 0, 999999) || !in(n, 0, 60)) return bad();
    if (s.words.isEmpty() || s.people.isEmpty()) return -1;
    long x = seed;
    int p = -1, answers = 0;
    List<Integer> said = new ArrayList<>(s.said);
    for (int i = 0; i < n; i++) {
      x = (x * 1103515245L + 12345) & 0x7fffffffL;
      int w = (int) ((x >> 16) % s.words.size());
      if (++p == s.people.size()) p = 0;
      int a = first(answersOf(p, w, said), s.people.get(p).want());
      if (a < 0) {
        said.clear();
      } else {
        said.add(a);
        answers++;
      }
    }
    return answers;
  }

  // ---- what there is

  long part(int what) {
    if (!in(what, 0, 1)) return bad();
    return what == 0 ? above : below;
  }

  int image(int i) {
    if (!in(i, 0, 1)) return bad();
    images[i] = s.copy();
    return 1;
  }

  int from(int i) {
    if (!in(i, 0, 1)) return bad();
    if (images[i] == null) return no();
    s = images[i].copy();
    return 1;
  }

  int status(int what) {
    if (!in(what, 0, 2)) { bad(); return -1; }
    return status[what];
  }

  int count(int what) {
    if (!in(what, 0, 6)) return bad();
    int pairs = 0;
    for (int a = 0; a < 8; a++) for (int b = a + 1; b < 8; b++) if (s.alike[a][b]) pairs++;
    return new int[] {s.words.size(), s.people.size(), pairs, s.said.size(), s.heard.size(), s.undos.size(),
        text.length()}[what];
  }

  long digest() {
    List<Long> values = new ArrayList<>();
    for (int what = 0; what < 7; what++) values.add((long) count(what));
    for (int w = 0; w < s.words.size(); w++) for (int what = 0; what < 4; what++) values.add((long) of(w, what));
    for (int a = 0; a < 8; a++) for (int b = a + 1; b < 8; b++) values.add(s.alike[a][b] ? 1L : 0L);
    for (Person p : s.people) {
      values.add((long) p.kind());
      values.add((long) p.want());
    }
    for (Heard h : s.heard) {
      values.add((long) h.word());
      values.add((long) h.answer());
    }
    values.add(above);
    values.add(below);
    long h = 929;
    for (long v : values) h = 31 * h + v;
    return h;
  }
}
