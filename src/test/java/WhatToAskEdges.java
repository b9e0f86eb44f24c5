/** Promises 15 to 21, and what 'Terms' says of asks, errands, what was heard and what to ask next. */
final class WhatToAskEdges {
  private WhatToAskEdges() {}

  /** Four words of ending 0 with the meanings 0 1 2 2: a rhymer can say 0 and 1 to either of the last two. */
  private static Run rhymes(int... costs) {
    Run r = new Run();
    int[] meanings = {0, 1, 2, 2};
    for (int w = 0; w < 4; w++) r.does("word(0, " + meanings[w] + ", " + costs[w] + ")");
    return r.does("person(0, 5)");
  }

  /** Eight words that rhyme with none, of the meanings 0 .. 7 and of one cost, and an echo. */
  private static Run apart(int cost) {
    Run r = new Run();
    for (int w = 0; w < 8; w++) r.does("word(" + w + ", " + w + ", " + cost + ")");
    return r.does("person(2, 0)");
  }

  // ---- promise 15

  @Sentence(of = 15, says = {"ASKS, as bits.", "ASKS for a MEANING: WORDS (bits) to which some ANSWER has it."})
  static void asksForAMeaning() {
    Run r = rhymes(0, 0, 0, 0).due("asks(0, 0)", 14).due("asks(0, 1)", 13).due("asks(0, 2)", 15).due("asks(0, 3)", 0).due("asks(0, 7)", 0);
    r.does("ask(0, 0, 3)").due("asks(0, 2)", 11).does("ask(0, 0, 2)").due("asks(0, 2)", 0);
    Run.echoing(10).due("asks(0, 0)", 1023).due("asks(0, 7)", 1023).due("asks(1, 7)", 895);
    new Run().does("person(0, 0)").due("asks(0, 0)", 0);
  }

  @Sentence(of = 15, says = "BAD.")
  static void asksIsBad() {
    new Run().bad("asks(0, 0)");
    Run r = Run.peopled().due("asks(4, 7)", 0).bad("asks(-1, 0)", "asks(5, 0)", "asks(2147483647, 0)", "asks(-2147483648, 0)");
    r.bad("asks(0, -1)", "asks(0, 8)", "asks(0, 32)", "asks(0, 2147483647)", "asks(0, -2147483648)");
  }

  // ---- promise 16

  @Sentence(of = 16, says = {"FEWEST ASKS, as bits.", "FEWEST ASKS (each WORD once) of one by which all told MEANINGS (bits) CAN be SAID"})
  static void fewestAsks() {
    // two words of lesser bits would do, one word of greater bits is fewer; its cost is nothing to it
    rhymes(0, 0, 20, 20).due("fewest(0, 3)", 4).due("fewest(0, 7)", 4).due("fewest(0, 1)", 2);
    // nothing is told: nothing is asked
    rhymes(0, 0, 0, 0).due("fewest(0, 0)", 0);
    new Run().does("person(0, 0)").due("fewest(0, 0)", 0).due("fewest(0, 1)", -1);
    apart(0).due("fewest(0, 255)", 255).due("fewest(0, 128)", 128).due("fewest(0, 129)", 129);
    new Run().does("word(0, 0, 0)", "word(0, 1, 0)", "person(0, 0)").due("fewest(0, 3)", 3);
    // others are not asked
    rhymes(0, 0, 0, 0).does("word(1, 7, 0)", "person(2, 0)").due("fewest(0, 128)", -1).due("fewest(1, 128)", 16);
  }

  @Sentence(of = 16, says = "(by SAID as it is now):")
  static void fewestBySaidAsItIsNow() {
    Run r = rhymes(0, 0, 0, 0).due("fewest(0, 4)", 1).does("ask(0, 0, 2)").due("fewest(0, 4)", 1).does("ask(0, 0, 3)").due("fewest(0, 4)", -1);
    r.due("fewest(0, 3)", 4).does("undo()").due("fewest(0, 4)", 1);
    new Run().does("word(0, 0, 0)", "word(0, 1, 0)", "word(0, 2, 0)", "person(0, 0)", "ask(0, 0, 2)").due("fewest(0, 3)", 4).due("fewest(0, 7)", -1);
  }

  @Sentence(of = 16, says = "the WORDS (bits; of like ones the least);")
  static void ofLikeAsksTheLeast() {
    rhymes(0, 0, 0, 0).due("fewest(0, 3)", 4).due("fewest(0, 4)", 1).due("fewest(0, 6)", 1).due("fewest(0, 5)", 2);
    Run.echoing(10).due("fewest(0, 255)", 1).due("fewest(1, 128)", 1).due("fewest(1, 255)", 1).due("fewest(1, 127)", 1);
  }

  @Sentence(of = 16, says = {"NONE.", "of like ones the least); none."})
  static void noAsksAtAll() {
    rhymes(0, 0, 0, 0).due(-1, "fewest(0, 8)", "fewest(0, 255)", "fewest(0, 128)", "fewest(0, 15)");
    Run.echoing(9).does("ask(0, 0, 7)").due("fewest(0, 128)", -1).due("fewest(0, 127)", 1);
  }

  @Sentence(of = 16, says = "BAD.")
  static void fewestIsBad() {
    new Run().bad("fewest(0, 0)");
    Run r = Run.peopled().bad("fewest(-1, 0)", "fewest(5, 0)", "fewest(2147483647, 0)", "fewest(-2147483648, 0)");
    r.bad("fewest(0, -1)", "fewest(0, 256)", "fewest(0, 2147483647)", "fewest(0, -2147483648)").due("fewest(0, 255)", -1);
  }

  // ---- promise 17

  @Sentence(of = 17, says = {"ERRAND: how much (0), which WORDS (1; bits).", "ERRAND: the WORDS whose COSTS are least together,"})
  static void theCheapestErrand() {
    // two cheap words are less than one dear one
    rhymes(9, 10, 20, 20).due("errand(3, 0)", 19).due("errand(3, 1)", 3);
    rhymes(9, 10, 18, 20).due("errand(3, 0)", 18).due("errand(3, 1)", 4);
    rhymes(0, 0, 0, 0).due("errand(0, 0)", 0).due("errand(0, 1)", 0);
    apart(20).due("errand(255, 0)", 160).due("errand(255, 1)", 255).due("errand(128, 0)", 20);
    apart(0).due("errand(255, 0)", 0).due("errand(255, 1)", 255);
  }

  @Sentence(of = 17, says = "each asked of whomever, so that each told MEANING CAN be SAID by somebody asked one of them;")
  static void eachAskedOfWhomever() {
    // nobody to be asked
    Run r = Run.five().due("errand(0, 0)", 0).due("errand(0, 1)", 0).due(-1, "errand(1, 0)", "errand(1, 1)");
    // a rhymer says 1 to word 0 and, at the least cost, 3 to word 2; an echo says 0 and 1 to word 0
    r.does("person(0, 0)").due("errand(3, 1)", 5).due("errand(3, 0)", 5).does("person(2, 0)").due("errand(3, 1)", 1).due("errand(3, 0)", 3);
    // one word is asked of two who can each say one of the meanings
    Run two = new Run().does("word(0, 0, 5)", "word(1, 1, 5)", "alike(0, 1, 1)", "person(2, 0)", "person(1, 0)");
    two.due("errand(3, 1)", 1).due("errand(3, 0)", 5).does("ask(0, 0, 0)").due("errand(3, 1)", -1).due("errand(2, 1)", 1);
  }

  @Sentence(of = 17, says = {"of like ones the least bits: how much, which;"})
  static void ofLikeErrandsTheLeastBits() {
    rhymes(10, 10, 20, 20).due("errand(3, 1)", 3).due("errand(3, 0)", 20);
    rhymes(10, 11, 20, 20).due("errand(3, 1)", 4).due("errand(3, 0)", 20);
    // words that cost nothing are not taken along
    rhymes(0, 0, 0, 0).due("errand(4, 1)", 1).due("errand(3, 1)", 3).due("errand(1, 1)", 2);
    Run.echoing(10).due("errand(255, 1)", 1).due("errand(255, 0)", 0);
  }

  @Sentence(of = 17, says = {"NONE.", "how much, which; none."})
  static void noErrandAtAll() {
    rhymes(1, 1, 1, 1).due(-1, "errand(8, 0)", "errand(8, 1)", "errand(255, 0)", "errand(255, 1)");
    new Run().due("errand(0, 0)", 0).due("errand(0, 1)", 0).due(-1, "errand(1, 0)", "errand(255, 1)");
    new Run().does("word(0, 0, 0)", "person(2, 0)", "ask(0, 0, 0)").due(-1, "errand(1, 0)", "errand(1, 1)");
  }

  @Sentence(of = 17, says = "BAD: -10.")
  static void errandIsBadByMinusTen() {
    new Run().badBy(-10, "errand(256, 0)", "errand(-1, 0)", "errand(0, 2)", "errand(0, -1)");
    Run.peopled().badBy(-10, "errand(256, 0)", "errand(-1, 1)", "errand(2147483647, 0)", "errand(-2147483648, 0)", "errand(255, 2)", "errand(255, -1)", "errand(255, 2147483647)");
  }

  // ---- promises 18 and 19

  @Sentence(of = 18, says = {"What was HEARD: how many there are.", "WANTS by what was HEARD (0 .. 5 of them, as they come:"})
  static void sixMayBeHeard() {
    Run r = Run.five().due("count(4)", 0);
    for (int h = 0; h < 6; h++) r.due("hear(" + h % 5 + ", " + (h % 6 - 1) + ")", h + 1).due("count(4)", h + 1);
    // as they come: the digest has them in their order
    Run a = Run.five().does("hear(0, 1)", "hear(1, 0)");
    Run b = Run.five().does("hear(1, 0)", "hear(0, 1)");
    if (a.call("digest()") == b.call("digest()")) Run.WRONG.add("hear(0, 1), hear(1, 0) is as hear(1, 0), hear(0, 1)");
  }

  @Sentence(of = 18, says = "a WORD asked, the WORD answered, or NONE: nothing) of a KIND, nothing SAID:")
  static void nothingMayBeHeardAndNothingIsSaid() {
    // a rhymer to word 4 says nothing, whatever he wants; an echo says it
    Run.five().due("hear(4, -1)", 1).due("wants(0)", 255).due("wants(2)", 0);
    Run.five().due("hear(4, 4)", 1).due("wants(0)", 0).due("wants(2)", 255);
    // that 1 is said already is nothing to it: he would have answered 1
    Run.peopled().does("ask(0, 0, 1)", "hear(0, 1)").due("wants(0)", 255).due("wants(1)", 250).due("next(0, 1)", 8);
    // a word that can not have been answered may be heard, too
    Run.five().due("hear(0, 0)", 1).due("wants(0)", 0).due("wants(1)", 0).due("wants(2)", 253);
  }

  @Sentence(of = 18, says = "FULL: 6.")
  static void aSeventhHeardIsFull() {
    Run r = Run.five();
    for (int h = 0; h < 5; h++) r.does("hear(0, 1)");
    r.due("hear(4, 4)", 6).full("hear(0, 1)", "hear(0, -1)").due("count(4)", 6).due("forget()", 6).due("hear(0, 1)", 1);
  }

  @Sentence(of = 18, says = "BAD;")
  static void hearIsBadAheadOfFull() {
    new Run().bad("hear(0, -1)", "hear(0, 0)");
    Run r = Run.five().bad("hear(-1, 0)", "hear(5, 0)", "hear(2147483647, 0)", "hear(-2147483648, 0)");
    r.bad("hear(0, -2)", "hear(0, 5)", "hear(0, 2147483647)", "hear(0, -2147483648)", "hear(-1, -1)").due("count(4)", 0);
    for (int h = 0; h < 6; h++) r.does("hear(4, -1)");
    r.bad("hear(5, 0)", "hear(0, 5)", "hear(0, -2)").due("status(2)", 0);
  }

  @Sentence(of = 19, says = "Nothing was HEARD:")
  static void behindAForgetNothingWasHeard() {
    Run r = Run.peopled().does("ask(0, 0, 1)");
    long digest = r.call("digest()");
    r.does("hear(4, 4)").due("wants(0)", 0).does("forget()").due("count(4)", 0).due("wants(0)", 255).due("digest()", digest).due("undo()", 0);
  }

  @Sentence(of = 19, says = "how many there were.")
  static void forgetTellsHowManyWereHeard() {
    new Run().due("forget()", 0);
    Run r = Run.five().due("forget()", 0).does("hear(0, 1)").due("forget()", 1).due("forget()", 0);
    for (int h = 0; h < 6; h++) r.does("hear(0, 1)");
    r.due("forget()", 6).due("forget()", 0);
  }

  // ---- promise 20

  @Sentence(of = 20, says = "WANTS of a KIND, as bits.")
  static void wantsOfAKind() {
    Run r = new Run();
    for (int kind = 0; kind < 6; kind++) r.due("wants(" + kind + ")", 255);
    Run five = Run.five().does("hear(0, 1)").due("wants(0)", 255).due("wants(1)", 250).due("wants(2)", 2).due("wants(3)", 2);
    // a poet does not say 3, which has the meaning of 0; one with a card says 0 if he wants it, and 4 if he wants 3
    five.due("wants(4)", 251).due("wants(5)", 242);
  }

  @Sentence(of = 20, says = "MEANINGS m (bits) by which one who wants m would answer so each time:")
  static void soEachTime() {
    Run r = Run.five().does("hear(0, 1)").due("wants(1)", 250).does("hear(2, 0)").due("wants(1)", 248).does("hear(3, 1)").due("wants(1)", 0);
    r.does("forget()", "hear(0, 3)").due("wants(1)", 1).does("hear(0, 3)").due("wants(1)", 1).does("hear(0, 1)").due("wants(1)", 0);
    // the sixth counts as the first does
    Run six = Run.five();
    for (int h = 0; h < 5; h++) six.does("hear(4, -1)");
    six.due("wants(1)", 255).does("hear(0, 2)").due("wants(1)", 4);
  }

  @Sentence(of = 20, says = "the first WORD that CHIMES and has MEANING m;")
  static void theFirstThatChimesAndHasTheMeaning() {
    // 1 and 2 both have meaning 5
    Run r = new Run().does("word(0, 0, 0)", "word(0, 5, 0)", "word(0, 5, 0)", "word(1, 7, 0)");
    r.does("hear(0, 2)").due("wants(0)", 0).does("forget()", "hear(1, 2)").due("wants(0)", 32).does("forget()", "hear(2, 1)").due("wants(0)", 32);
    // 3 has it, and does not chime but with the card's
    r.does("forget()", "hear(0, 3)").due("wants(0)", 0).due("wants(1)", 0).due("wants(5)", 128);
  }

  @Sentence(of = 20, says = "if there is none, the first that CHIMES;")
  static void elseTheFirstThatChimes() {
    Run r = new Run().does("word(0, 0, 0)", "word(0, 5, 0)", "word(0, 6, 0)");
    r.does("hear(0, 1)").due("wants(0)", 191).does("forget()", "hear(2, 0)").due("wants(0)", 223).does("forget()", "hear(2, 1)").due("wants(0)", 32);
  }

  @Sentence(of = 20, says = "if there is none, nothing.")
  static void elseNothing() {
    Run r = new Run().does("word(3, 3, 0)", "hear(0, -1)");
    // one with a card who wants 3 says the word itself
    r.due(255, "wants(0)", "wants(1)", "wants(4)").due("wants(5)", 247).due(0, "wants(2)", "wants(3)");
    r.does("word(3, 4, 0)").due(0, "wants(0)", "wants(1)", "wants(4)", "wants(5)");
  }

  @Sentence(of = 20, says = "BAD.")
  static void wantsIsBad() {
    new Run().due("wants(5)", 255).bad("wants(-1)", "wants(6)", "wants(2147483647)", "wants(-2147483648)");
  }

  // ---- promise 21

  @Sentence(of = 21, says = {"NEXT: which (0;", "NEXT: the WORD to be asked next, by which the most of these MEANINGS that are left then are fewest;"})
  static void theNextWordToAsk() {
    // an echo: to 0 .. 2 he says the same whatever he wants; to 3 .. 5 one of three
    Run r = new Run().does("word(0, 0, 0)", "word(1, 0, 0)", "word(2, 0, 0)", "word(3, 0, 0)", "word(3, 1, 0)", "word(3, 2, 0)");
    r.due("next(2, 0)", 3).due("next(2, 1)", 6).does("hear(3, 4)").due("wants(2)", 2).due("next(2, 0)", 0).due("next(2, 1)", 1);
    // all eight told apart by one ask
    Run.echoing(8).due("next(2, 0)", 0).due("next(2, 1)", 1).due("next(0, 1)", 2).due("next(3, 0)", 0).due("next(3, 1)", 1);
    // silence is an answer, too: one with a card is silent for the meanings of no word
    Run.five().due("next(5, 0)", 4).due("next(5, 1)", 4);
  }

  @Sentence(of = 21, says = "of like ones the first: which, how many.")
  static void ofLikeWordsTheFirst() {
    Run.five().due("next(0, 0)", 0).due("next(0, 1)", 8).due("next(1, 0)", 0).due("next(1, 1)", 6);
    Run.echoing(10).due("next(2, 0)", 0).due("next(0, 0)", 0).due("next(0, 1)", 1);
    Run r = new Run();
    for (int w = 0; w < 8; w++) r.does("word(" + w + ", 0, 0)");
    r.does("word(6, 1, 0)", "word(5, 1, 0)").due("next(2, 0)", 5).due("next(2, 1)", 7).due("next(0, 0)", 0).due("next(0, 1)", 8);
  }

  @Sentence(of = 21, says = {"NONE: no WORDS, or no MEANING is left),", "how many (1; 0 then)."})
  static void noNextWord() {
    Run none = new Run();
    for (int kind = 0; kind < 6; kind++) none.due("next(" + kind + ", 0)", -1).due("next(" + kind + ", 1)", 0);
    Run.five().does("hear(4, 4)").due("wants(0)", 0).due("next(0, 0)", -1).due("next(0, 1)", 0).due("next(2, 0)", 0).due("next(2, 1)", 7);
    // one is left: any word tells him apart from nobody
    Run.five().does("hear(0, 2)").due("wants(1)", 4).due("next(1, 0)", 0).due("next(1, 1)", 1);
  }

  @Sentence(of = 21, says = "BAD.")
  static void nextIsBad() {
    new Run().bad("next(-1, 0)", "next(6, 0)", "next(2147483647, 0)", "next(-2147483648, 0)", "next(0, -1)", "next(0, 2)", "next(0, 2147483647)");
    Run.five().does("hear(4, 4)").bad("next(6, 0)", "next(0, 2)");
  }
}
