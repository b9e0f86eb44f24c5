/** Promises 22 to 25, and what 'Terms' says of two who talk, of wills, the worst word and what to allow. */
final class TwoEdges {
  private TwoEdges() {}

  /** So many words of ending 0 and meaning 0, and two people. */
  private static Run pair(int words, int a, int b) {
    Run r = new Run();
    for (int w = 0; w < words; w++) r.does("word(0, 0, 0)");
    return r.does("person(" + a + ", 0)", "person(" + b + ", 0)");
  }

  private static void talk(Run r, String who, int silent, int longest, int shortest) {
    r.due("two(" + who + ", 0)", silent).due("two(" + who + ", 1)", longest).due("two(" + who + ", 2)", shortest);
  }

  // ---- promise 22

  @Sentence(of = 22, says = {
      "TWO: who falls silent first (0), LONGEST (1), SHORTEST (2).",
      "TWO who both have it, a, b: a was asked a WORD: they go on by turns, each answers the WORD answered last,"})
  static void twoGoOnByTurns() {
    // one word: a rhymer is silent at once, an echo says it and the other is silent
    Run one = pair(1, 0, 2);
    talk(one, "0, 1, 0", 0, 0, 0);
    talk(one, "1, 0, 0", 1, 1, 1);
    // a rhymer asked 0 says 1, and the echo asked 1 says 0; then the rhymer asked 0 has none
    talk(pair(2, 0, 2), "0, 1, 0", 0, 2, 2);
    // each answers the last word, not the first: the slow one asked 1 has none once it is said
    talk(pair(2, 0, 3), "0, 1, 0", 1, 1, 1);
    talk(pair(10, 2, 2), "0, 1, 5", 0, 10, 10);
    talk(pair(9, 2, 2), "1, 0, 8", 1, 9, 9);
  }

  @Sentence(of = 22, says = "none that was SAID (in this talk, too):")
  static void noneThatWasSaid() {
    Run r = Run.echoing(10);
    for (int w = 0; w < 10; w++) {
      r.does("ask(0, 0, " + w + ")").due("two(0, 1, 9, 1)", w == 9 ? 0 : 9 - w).due("count(3)", w + 1);
    }
    // all are said: a is silent at once
    talk(r, "0, 1, 9", 0, 0, 0);
    talk(r, "1, 0, 0", 0, 0, 0);
    // in this talk each is said once: two echoes of one word say it once
    talk(pair(1, 2, 2), "0, 1, 0", 1, 1, 1);
    // that it was asked does not make it SAID, and what a talk says is not SAID behind it
    Run asked = pair(2, 2, 2);
    talk(asked, "0, 1, 1", 0, 2, 2);
    asked.due("count(3)", 0).due("answers(0, 0, 1)", 3);
  }

  @Sentence(of = 22, says = "who falls silent first, if each wants that the other does: 0 a, 1 b.")
  static void eachWantsTheOtherToFallSilent() {
    // slow ones asked 0: to say 0 leaves 1 to the other, to say 1 leaves nothing
    talk(pair(2, 3, 3), "0, 1, 0", 1, 2, 1);
    talk(pair(10, 3, 3), "0, 1, 0", 1, 10, 1);
    // a echoes 0; b may say 3, to which a has none, and does not say 1 or 2, to which a has the other
    Run b = new Run().does("word(1, 0, 0)", "word(2, 0, 0)", "word(2, 0, 0)", "word(3, 0, 0)", "alike(1, 2, 1)", "alike(3, 1, 1)");
    talk(b.does("person(2, 0)", "person(1, 0)"), "0, 1, 0", 0, 3, 2);
    talk(b, "1, 0, 3", 1, 1, 1);
  }

  @Sentence(of = 22, says = {"LONGEST: how many answers there are at most, if both want it to go on;", "SHORTEST: at least, if both want it to end."})
  static void longestAndShortest() {
    // a half one asked 0 may say 2, to which a rhymer has none, or 1, then 0 and 2 follow
    Run r = new Run().does("word(0, 0, 0)", "word(0, 0, 0)", "word(1, 0, 0)", "alike(0, 1, 1)", "person(1, 0)", "person(0, 0)");
    talk(r, "0, 1, 0", 1, 3, 1);
    talk(r, "1, 0, 2", 0, 0, 0);
    talk(pair(5, 3, 3), "0, 1, 0", 1, 5, 1);
    talk(pair(5, 3, 3), "0, 1, 4", 1, 1, 1);
    talk(pair(10, 3, 2), "0, 1, 9", 0, 10, 2);
    // half ones asked 0, which is said: 1 2 or 2 1 are said alike, but from 2 it goes on by 3, from 1 by 4; behind one of these stands 5
    talk(chain("alike(4, 5, 1)"), "0, 1, 0", 1, 4, 2);
    talk(chain("alike(3, 5, 1)"), "0, 1, 0", 1, 4, 2);
    talk(chain("alike(6, 7, 1)"), "0, 1, 0", 0, 3, 2);
  }

  /** Words of the endings 0 .. 5, of which 0 1, 0 2, 1 2, 2 3, 1 4 and one pair more are alike; 0 is said. */
  private static Run chain(String more) {
    Run r = new Run();
    for (int w = 0; w < 6; w++) r.does("word(" + w + ", 0, 0)");
    r.does("alike(0, 1, 1)", "alike(0, 2, 1)", "alike(1, 2, 1)", "alike(2, 3, 1)", "alike(1, 4, 1)", more);
    return r.does("person(1, 0)", "person(1, 0)", "ask(0, 1, 0)");
  }

  @Sentence(of = 22, says = "BAD: alike, too.")
  static void twoIsBad() {
    new Run().bad("two(0, 1, 0, 0)");
    Run r = Run.peopled();
    for (int p = 0; p < 5; p++) r.bad("two(" + p + ", " + p + ", 0, 0)");
    r.bad("two(-1, 0, 0, 0)", "two(5, 0, 0, 0)", "two(2147483647, 0, 0, 0)", "two(0, -1, 0, 0)", "two(0, 5, 0, 0)", "two(0, -2147483648, 0, 0)");
    r.bad("two(0, 1, -1, 0)", "two(0, 1, 5, 0)", "two(0, 1, 2147483647, 0)", "two(0, 1, 0, -1)", "two(0, 1, 0, 3)", "two(0, 1, 0, 2147483647)");
    // one alone is not two
    new Run().does("word(0, 0, 0)", "person(2, 0)").bad("two(0, 0, 0, 0)", "two(0, 1, 0, 0)", "two(1, 0, 0, 0)");
    new Run().does("person(2, 0)", "person(2, 0)").bad("two(0, 1, 0, 0)");
  }

  // ---- promise 23

  @Sentence(of = 23, says = "WILL, as bits.")
  static void aWillAsBits() {
    Run none = new Run();
    for (int kind = 0; kind < 6; kind++) none.due("will(" + kind + ", 7)", 0);
    new Run().does("word(0, 0, 0)").due(1, "will(0, 0)", "will(1, 0)", "will(2, 0)", "will(3, 0)", "will(4, 0)", "will(5, 0)");
    Run apart = new Run();
    for (int w = 0; w < 10; w++) apart.does("word(" + w % 8 + ", " + w % 8 + ", 0)");
    // 8 and 9 rhyme with 0 and 1, but are of their meanings, which a poet does not say
    apart.due(255, "will(0, 0)", "will(1, 7)", "will(2, 0)", "will(3, 0)").due("will(4, 0)", 1023);
  }

  @Sentence(of = 23, says = "WILL of a KIND (with a WANT):")
  static void aWillOfACardTurnsOnTheWant() {
    // of five() no two half rhymes: one of 0 .. 3, and 4
    Run.five().due("will(1, 3)", 17).due("will(5, 7)", 17).due("will(5, 4)", 17);
    // with a card: 4, of meaning 3, chimes with all; 1, of meaning 1, does with 4
    Run.five().due("will(5, 3)", 1).due("will(5, 1)", 17).due("will(5, 0)", 18);
  }

  @Sentence(of = 23, says = "the most WORDS (SAID or not)")
  static void saidOrNot() {
    Run.peopled().due("will(0, 0)", 21).does("ask(0, 1, 0)", "ask(0, 3, 2)", "ask(2, 4, 4)").due("count(3)", 3).due("will(0, 0)", 21);
    // all ten are said; of eight endings that are all alike no two words are apart for a half one
    Run.full().due("will(0, 0)", 255).due("will(2, 0)", 255).due("will(1, 0)", 1).does("rest()").due("will(0, 0)", 255).due("will(1, 0)", 1);
  }

  @Sentence(of = 23, says = "of which none CHIMES with another one of them (either way);")
  static void noneChimesEitherWay() {
    // an echo of itself is not another one
    new Run().does("word(0, 0, 0)", "word(1, 0, 0)").due("will(2, 0)", 3).due("will(3, 0)", 3).due("will(5, 0)", 1).due("will(5, 1)", 3);
    // a slow one: 1 chimes with 0, 0 does not with 1
    new Run().does("word(0, 0, 0)", "word(0, 0, 0)").due("will(3, 0)", 1).due("will(2, 0)", 1);
    // one with a card who wants 1: 0 chimes with 1, which does not with 0
    new Run().does("word(0, 1, 0)", "word(1, 2, 0)").due("will(5, 1)", 1).due("will(5, 2)", 1).due("will(5, 3)", 3);
  }

  @Sentence(of = 23, says = "of like ones the least bits: which.")
  static void ofLikeWillsTheLeastBits() {
    Run.five().due("will(0, 0)", 21).due("will(1, 0)", 17);
    // 0 alone, or 1 and 2 (two are more, if their bits are greater)
    new Run().does("word(0, 0, 0)", "word(1, 0, 0)", "word(2, 0, 0)", "alike(0, 1, 1)", "alike(0, 2, 1)").due("will(1, 0)", 6);
    Run.echoing(10).due("will(0, 0)", 1).due("will(3, 0)", 1);
  }

  @Sentence(of = 23, says = "BAD.")
  static void willIsBad() {
    Run r = new Run().bad("will(-1, 0)", "will(6, 0)", "will(2147483647, 0)", "will(-2147483648, 0)", "will(0, -1)", "will(0, 8)", "will(5, 2147483647)");
    r.due("will(5, 7)", 0).due("will(0, 0)", 0);
  }

  // ---- promise 24

  @Sentence(of = 24, says = {"WORST.", "WORST: the WORD to which one has the fewest MEANINGS that CAN be SAID;"})
  static void theWorstWord() {
    // to 3 a rhymer has two answers of one meaning, to the others two meanings
    Run r = new Run().does("word(1, 2, 0)", "word(1, 3, 0)", "word(1, 4, 0)", "word(0, 0, 0)", "word(0, 1, 0)", "word(0, 1, 0)", "person(0, 0)");
    r.due("worst(0)", 3).does("ask(0, 3, 5)").due("worst(0)", 3).does("ask(0, 3, 4)").due("worst(0)", 3).does("ask(0, 0, 1)").due("worst(0)", 3);
    r.does("rest()", "ask(0, 0, 1)", "ask(0, 0, 2)").due("worst(0)", 0);
    // all eight to each, and all eight but to 7
    Run.echoing(10).due("worst(0)", 0).due("worst(1)", 2);
    Run.five().does("person(0, 0)").due("worst(0)", 4);
  }

  @Sentence(of = 24, says = "of like ones the first;")
  static void ofLikeWorstWordsTheFirst() {
    Run.five().does("person(2, 0)", "person(3, 0)").due("worst(0)", 4).due("worst(1)", 1);
    Run r = Run.echoing(10);
    for (int w = 0; w < 10; w++) r.does("ask(0, 0, " + w + ")");
    r.due("worst(0)", 0).due("worst(1)", 0);
  }

  @Sentence(of = 24, says = {"NONE.", "none: no WORDS."})
  static void noWorstWord() {
    new Run().does("person(0, 0)").due("worst(0)", -1).does("word(0, 0, 0)").due("worst(0)", 0).does("tongue()", "person(5, 0)").due("worst(0)", -1);
  }

  @Sentence(of = 24, says = "BAD.")
  static void worstIsBad() {
    new Run().bad("worst(0)", "worst(-1)");
    Run.peopled().due("worst(4)", 4).bad("worst(-1)", "worst(5)", "worst(2147483647)", "worst(-2147483648)");
  }

  // ---- promise 25

  /** One word of each of these endings, of the meanings 0, 1, .. , and a half one. */
  private static Run endings(int... endings) {
    Run r = new Run();
    for (int w = 0; w < endings.length; w++) r.does("word(" + endings[w] + ", " + w + ", 0)");
    return r.does("person(1, 0)");
  }

  private static void row(Run r, String whoWhat, int... pairs) {
    r.due("allow(" + whoWhat + ", -1)", pairs.length);
    for (int i = 0; i < pairs.length; i++) r.due("allow(" + whoWhat + ", " + i + ")", pairs[i]);
    r.due("allow(" + whoWhat + ", " + pairs.length + ")", -5);
  }

  @Sentence(of = 25, says = {"ALLOW: how many (i = NONE), the i-th.", "ALLOW: the fewest pairs of ENDINGS more (0 .. 2) to be ALIKE,"})
  static void theFewestPairsMore() {
    Run r = endings(2, 3, 4, 5, 6);
    row(r, "0, 0");
    row(r, "0, 1", 23);
    row(r, "0, 24", 56);
    row(r, "0, 15", 23, 45);
    // a third pair is not allowed
    r.due(-1, "allow(0, 31, -1)", "allow(0, 31, 0)");
    // pairs that are alike already are not counted
    r.does("alike(5, 6, 1)");
    row(r, "0, 24");
    row(r, "0, 31", 23, 24);
    r.does("alike(3, 2, 1)");
    row(r, "0, 31", 24);
    r.does("alike(4, 2, 1)");
    row(r, "0, 31");
    r.due("count(2)", 3);
  }

  @Sentence(of = 25, says = "so that one CAN SAY told MEANINGS (bits), by some WORD each;")
  static void eachMeaningBySomeWord() {
    // 0 is said to 1, 1 to 0: by a word each
    row(endings(0, 7), "0, 3", 7);
    row(endings(0, 7), "0, 1", 7);
    // a poet does not say what has the meaning of the word
    Run poet = new Run().does("word(0, 0, 0)", "word(1, 0, 0)", "word(2, 1, 0)", "person(4, 0)");
    row(poet, "0, 1", 2);
    // one with a card says what he wants, an echo what he is asked, a rhymer gains nothing
    row(endings(0, 1).does("person(5, 1)"), "1, 2");
    row(endings(0, 1).does("person(5, 1)"), "1, 3", 1);
    row(endings(0, 1).does("person(2, 1)"), "1, 3");
    endings(0, 1).does("person(0, 1)", "person(3, 1)").due("allow(1, 1, -1)", -1).due("allow(2, 3, -1)", 0);
    // what is said can not be said again, whatever is allowed
    Run said = endings(0, 1).does("alike(0, 1, 1)", "ask(0, 0, 1)", "alike(0, 1, 0)");
    said.due("allow(0, 2, -1)", -1);
    row(said, "0, 1", 1);
  }

  @Sentence(of = 25, says = "of like ones the first row (10 a and b, a below b; rising):")
  static void ofLikeRowsTheFirst() {
    // 01 23, 02 13 and 03 12 would all do
    row(endings(0, 1, 2, 3), "0, 15", 1, 23);
    row(endings(0, 1, 2, 3), "0, 7", 1, 2);
    row(endings(3, 2, 1, 0), "0, 15", 1, 23);
    row(endings(7, 6), "0, 3", 67);
    row(endings(0, 1, 6, 7), "0, 15", 1, 67);
    row(endings(7, 0, 6), "0, 7", 6, 7);
    row(endings(5, 6, 7), "0, 7", 56, 57);
  }

  @Sentence(of = 25, says = "how many, the i-th; none.")
  static void noPairsAtAll() {
    Run r = endings(0, 1).due(-1, "allow(0, 4, -1)", "allow(0, 128, -1)", "allow(0, 255, 0)", "allow(0, 255, 1)", "allow(0, 255, 2)");
    // six words of their own endings need three pairs
    endings(0, 1, 2, 3, 4, 5).due(-1, "allow(0, 63, -1)", "allow(0, 63, 0)").due("allow(0, 15, -1)", 2).due("allow(0, 31, -1)", -1);
    new Run().does("person(1, 0)").due("allow(0, 0, -1)", 0).due("allow(0, 1, -1)", -1);
    r.due("count(2)", 0);
  }

  @Sentence(of = 25, says = "-5: not so many.")
  static void notSoManyPairs() {
    Run r = endings(0, 1, 2, 3).due(-5, "allow(0, 0, 0)", "allow(0, 0, 1)", "allow(0, 3, 1)", "allow(0, 3, 2)", "allow(0, 15, 2)", "allow(0, 15, 3)");
    r.due(-5, "allow(0, 0, 2147483647)", "allow(0, 15, 2147483647)", "allow(0, 3, 28)");
  }

  @Sentence(of = 25, says = "NONE: none.")
  static void noneIsAheadOfNotSoMany() {
    endings(0, 1).due(-1, "allow(0, 4, -1)", "allow(0, 4, 0)", "allow(0, 4, 2)", "allow(0, 4, 2147483647)");
  }

  @Sentence(of = 25, says = "BAD: -10.")
  static void allowIsBadByMinusTen() {
    new Run().badBy(-10, "allow(0, 0, -1)", "allow(0, 0, 0)");
    Run r = Run.peopled().badBy(-10, "allow(-1, 0, 0)", "allow(5, 0, 0)", "allow(2147483647, 0, 0)", "allow(-2147483648, 0, 0)");
    r.badBy(-10, "allow(0, -1, 0)", "allow(0, 256, 0)", "allow(0, 2147483647, 0)", "allow(0, -2147483648, 0)");
    r.badBy(-10, "allow(0, 0, -2)", "allow(0, 0, -5)", "allow(0, 0, -2147483648)", "allow(0, 255, -2)").due("allow(4, 255, -1)", -1);
  }
}
