/** Promises 9 to 14, and what 'Terms' says of kinds, answers, asks and what may be undone. */
final class AskEdges {
  private AskEdges() {}

  /** Endings 3 3 4, meanings 0 0 1; 3 and 4 are alike; one person. */
  private static Run three(int kind, int want) {
    return new Run().does("word(3, 0, 0)", "word(3, 0, 0)", "word(4, 1, 0)", "alike(3, 4, 1)", "person(" + kind + ", " + want + ")");
  }

  private static void chimes(Run r, int... rows) {
    for (int w = 0; w < rows.length; w++) r.due("answers(0, " + w + ", 0)", rows[w]);
  }

  // ---- kinds

  @Sentence(of = 14, says = {
      "KINDS, each under the one told, say whether a WORD x CHIMES with the WORD w that one was asked:",
      "0 RHYMER: x has the ENDING of w, and is not w."})
  static void aRhymerDoesNotSayTheWordItself() {
    chimes(three(0, 0), 2, 1, 0);
    chimes(new Run().does("word(0, 0, 0)", "person(0, 0)"), 0);
    chimes(Run.five().does("person(0, 3)"), 2, 1, 8, 4, 0);
  }

  @Sentence(of = 14, says = "1 HALF (under RHYMER): as RHYMER, or their ENDINGS are ALIKE.")
  static void aHalfOneSaysWhatIsAlike() {
    chimes(three(1, 0), 6, 5, 3);
    chimes(three(1, 0).does("alike(4, 3, 0)"), 2, 1, 0);
    // alike is not handed on from one to the next
    chimes(new Run().does("word(0, 0, 0)", "word(1, 0, 0)", "word(2, 0, 0)", "alike(0, 1, 1)", "alike(1, 2, 1)", "person(1, 0)"), 2, 5, 2);
  }

  @Sentence(of = 14, says = "2 ECHO (under RHYMER): as RHYMER, or x is w.")
  static void anEchoSaysTheWordItself() {
    chimes(three(2, 0), 3, 3, 4);
    chimes(new Run().does("word(0, 0, 0)", "person(2, 0)"), 1);
  }

  @Sentence(of = 14, says = "3 SLOW (under ECHO): as ECHO, but no WORD of a lesser number than w.")
  static void aSlowOneSaysNoLesserWord() {
    chimes(three(3, 0), 3, 2, 4);
    Run r = new Run();
    for (int w = 0; w < 10; w++) r.does("word(7, 0, 0)");
    chimes(r.does("person(3, 0)"), 1023, 1022, 1020, 1016, 1008, 992, 960, 896, 768, 512);
  }

  @Sentence(of = 14, says = "4 POET (under HALF): as HALF, but not of the MEANING of w.")
  static void aPoetSaysNothingOfItsMeaning() {
    chimes(three(4, 0), 4, 4, 3);
    chimes(three(4, 1).does("alike(3, 4, 0)"), 0, 0, 0);
    chimes(Run.five().does("person(4, 0)"), 6, 13, 11, 6, 0);
  }

  @Sentence(of = 14, says = "5 CARD (under HALF): as HALF, or x has the MEANING of his WANT.")
  static void oneWithACardSaysWhatHeWants() {
    chimes(three(5, 7), 6, 5, 3);
    // also the word itself, if it has that meaning
    chimes(three(5, 1), 6, 5, 7);
    chimes(three(5, 0), 7, 7, 3);
    chimes(three(5, 1).does("alike(3, 4, 0)"), 6, 5, 4);
  }

  // ---- promise 14

  @Sentence(of = 14, says = "ANSWERS of one to a WORD: WORDS that CHIME with it, not SAID.")
  static void whatIsSaidIsNoAnswer() {
    Run r = Run.echoing(10).due("answers(0, 4, 1)", 1023);
    int left = 1023;
    for (int w = 9; w >= 0; w--) {
      left -= 1 << w;
      r.does("ask(0, 4, " + w + ")").due("answers(0, 4, 1)", left).due("answers(0, 4, 0)", 1023);
    }
    r.due("answers(0, 4, 2)", 0).due("answers(1, 4, 1)", 0);
  }

  @Sentence(of = 14, says = {"CAN SAY: MEANINGS (bits) of all ANSWERS to a WORD.", "MEANINGS that CAN be SAID (2), as bits."})
  static void meaningsThatCanBeSaid() {
    Run r = Run.echoing(10).due("answers(0, 9, 2)", 255).due("answers(1, 7, 2)", 127).due("answers(1, 0, 2)", 255);
    // meaning 0 is that of the words 0 and 8
    r.does("ask(0, 0, 8)").due("answers(0, 0, 2)", 255).does("ask(0, 0, 0)").due("answers(0, 0, 2)", 254);
    new Run().does("word(0, 7, 0)", "person(0, 0)", "person(2, 0)").due("answers(0, 0, 2)", 0).due("answers(1, 0, 2)", 128);
  }

  @Sentence(of = 14, says = "WORDS that CHIME with one (0), ANSWERS to it (1),")
  static void chimesAndAnswersAsBits() {
    Run r = Run.echoing(10).due("answers(0, 0, 0)", 1023).due("answers(1, 9, 0)", 511).due("answers(1, 0, 1)", 1022);
    r.does("ask(1, 0, 9)").due("answers(1, 0, 0)", 1022).due("answers(1, 0, 1)", 510);
  }

  @Sentence(of = 14, says = "BAD.")
  static void answersIsBad() {
    new Run().bad("answers(0, 0, 0)");
    Run r = Run.peopled().due("answers(4, 4, 2)", 0);
    r.bad("answers(-1, 0, 0)", "answers(5, 0, 0)", "answers(2147483647, 0, 0)", "answers(-2147483648, 0, 0)");
    r.bad("answers(0, -1, 0)", "answers(0, 5, 0)", "answers(0, 2147483647, 0)", "answers(0, -2147483648, 0)");
    r.bad("answers(0, 0, -1)", "answers(0, 0, 3)", "answers(0, 0, 2147483647)", "answers(0, 0, -2147483648)");
    // a word that came last is one, the next is none
    r.due("word(0, 0, 0)", 5).due("answers(0, 5, 0)", 3).bad("answers(0, 6, 0)");
  }

  // ---- promise 9

  @Sentence(of = 9, says = {"An ASK: the MEANING of the answer.", "An ASK: one is asked a WORD, answers another one of his ANSWERS: that is SAID then."})
  static void theAnswerIsSaidThen() {
    Run r = new Run().does("word(0, 7, 0)", "word(0, 0, 0)", "person(0, 0)");
    r.due("ask(0, 0, 1)", 0).due("of(1, 3)", 1).due("of(0, 3)", 0).due("count(3)", 1);
    // a word that is said may still be asked
    r.due("ask(0, 1, 0)", 7).due("of(0, 3)", 1).due("count(3)", 2).due("count(5)", 2);
    new Run().does("word(0, 4, 0)", "person(2, 0)").due("ask(0, 0, 0)", 4).no("ask(0, 0, 0)");
  }

  @Sentence(of = 9, says = "NO: that is none of his ANSWERS.")
  static void whatIsNoneOfHisAnswersIsNo() {
    Run r = Run.peopled().no("ask(0, 0, 0)", "ask(0, 0, 2)", "ask(0, 0, 4)", "ask(1, 0, 0)", "ask(3, 1, 0)", "ask(4, 0, 3)", "ask(0, 4, 0)");
    r.due("count(3)", 0).due("count(5)", 0).due("ask(0, 0, 1)", 1).no("ask(0, 0, 1)", "ask(1, 2, 1)", "ask(2, 1, 1)").due("count(5)", 1);
  }

  @Sentence(of = 9, says = "BAD;")
  static void anAskIsBadAheadOfNo() {
    new Run().bad("ask(0, 0, 0)");
    Run r = Run.peopled();
    for (int v : new int[] {-1, -2, 5, 32, Integer.MIN_VALUE, Integer.MAX_VALUE}) {
      r.bad("ask(" + v + ", 0, 0)", "ask(0, " + v + ", 0)", "ask(0, 0, " + v + ")");
    }
    r.due("status(1)", 0).due("count(3)", 0);
    // words without people, people without words
    Run.five().bad("ask(0, 0, 1)");
    new Run().does("person(2, 0)").bad("ask(0, 0, 0)");
  }

  // ---- promise 10

  @Sentence(of = 10, says = "Nothing is SAID any more (nothing to undo):")
  static void behindARestNothingIsSaidOrUndone() {
    Run r = Run.echoing(10).does("ask(0, 0, 0)", "ask(0, 0, 9)", "rest()").due(0, "count(3)", "count(5)", "of(0, 3)", "of(9, 3)");
    r.no("undo()").due("answers(0, 0, 1)", 1023).due("ask(0, 0, 9)", 1).due("undo()", 0).no("undo()");
    Run.peopled().does("hear(0, 1)", "rest()").due("count(4)", 1).due("count(0)", 5).due("count(1)", 5).due("count(2)", 1);
  }

  @Sentence(of = 10, says = "how many WORDS were.")
  static void restTellsHowManyWordsWereSaid() {
    new Run().due("rest()", 0);
    Run r = Run.echoing(10).due("rest()", 0);
    for (int w = 0; w < 10; w++) r.does("ask(0, 0, " + w + ")");
    r.due("rest()", 10).due("rest()", 0).does("ask(0, 0, 0)", "ask(0, 0, 1)", "undo()").due("rest()", 1);
  }

  // ---- promise 11

  @Sentence(of = 11, says = {"UNDO: how many WORDS are SAID then.", "UNDO: SAID as ahead of the last ASK"})
  static void saidIsAsAheadOfTheLastAsk() {
    Run r = Run.echoing(10).does("ask(0, 0, 9)", "ask(0, 0, 0)").due("undo()", 1).due("of(9, 3)", 1).due("of(0, 3)", 0).due("undo()", 0);
    // a refused ask is none that could be undone
    r.does("ask(0, 0, 5)").no("ask(0, 0, 5)").bad("ask(0, 0, 10)").due("undo()", 0).no("undo()");
    r.does("ask(0, 0, 1)", "undo()", "ask(0, 0, 2)").due("count(5)", 1).due("undo()", 0).due("of(1, 3)", 0).due("of(2, 3)", 0);
  }

  @Sentence(of = 11, says = "(8 at most;")
  static void eightMayBeUndoneAtMost() {
    Run r = Run.echoing(10);
    for (int w = 0; w < 10; w++) r.does("ask(0, 0, " + w + ")").due("count(5)", Math.min(w + 1, 8));
    for (int said = 9; said >= 2; said--) r.due("undo()", said).due("count(5)", said - 2);
    r.no("undo()").due("answers(0, 0, 1)", 1020).due("count(3)", 2);
    Run eight = Run.echoing(10);
    for (int w = 0; w < 8; w++) eight.does("ask(0, 0, " + w + ")");
    for (int said = 7; said >= 0; said--) eight.due("undo()", said);
    eight.no("undo()");
  }

  @Sentence(of = {11, 3}, says = "behind a WORD that comes none may be).")
  static void behindAWordNoneMayBeUndone() {
    Run r = Run.echoing(3).does("ask(0, 0, 0)", "ask(0, 0, 1)").due("word(1, 1, 1)", 3).due("count(5)", 0).no("undo()").due("count(3)", 2);
    r.does("ask(0, 0, 2)").due("count(5)", 1).due("undo()", 2).no("undo()");
    // one that is refused has not come; a person, a pair, what is heard, a byte take nothing away
    Run.echoing(3).does("ask(0, 0, 0)").bad("word(8, 0, 0)").does("person(0, 0)", "alike(0, 1, 1)", "hear(0, 0)", "type(1)").due("undo()", 0);
    Run full = Run.echoing(10).does("ask(0, 0, 0)").full("word(0, 0, 0)").due("undo()", 0);
    full.does("ask(0, 0, 0)", "image(0)", "clear()", "forget()").due("undo()", 0);
  }

  @Sentence(of = 11, says = "NO: none may be.")
  static void undoIsNo() {
    new Run().no("undo()", "undo()");
    Run.peopled().no("undo()").does("ask(0, 0, 1)", "tongue()").no("undo()");
  }

  // ---- promises 12 and 13

  @Sentence(of = 12, says = "Of a WORD: ENDING (0), MEANING (1), COST (2), whether SAID (3; 1, 0).")
  static void ofAWord() {
    Run r = new Run().does("word(7, 0, 20)", "word(0, 7, 0)", "person(2, 0)", "ask(0, 0, 0)");
    r.due("of(0, 0)", 7).due("of(0, 1)", 0).due("of(0, 2)", 20).due("of(0, 3)", 1);
    r.due("of(1, 0)", 0).due("of(1, 1)", 7).due("of(1, 2)", 0).due("of(1, 3)", 0).does("undo()").due("of(0, 3)", 0);
    Run.full().due("of(9, 0)", 1).due("of(9, 1)", 1).due("of(9, 2)", 20).due("of(9, 3)", 1);
  }

  @Sentence(of = 12, says = "BAD.")
  static void ofIsBad() {
    new Run().bad("of(0, 0)", "of(-1, 0)").does("word(0, 0, 0)").due("of(0, 3)", 0).bad("of(1, 0)");
    Run.full().bad("of(10, 0)", "of(-1, 0)", "of(2147483647, 0)", "of(-2147483648, 0)", "of(0, 4)", "of(0, -1)", "of(0, 2147483647)", "of(0, -2147483648)");
  }

  @Sentence(of = 13, says = "Of a PERSON: KIND (0), WANT (1).")
  static void aboutAPerson() {
    new Run().does("person(5, 0)", "person(0, 7)").due("about(0, 0)", 5).due("about(0, 1)", 0).due("about(1, 0)", 0).due("about(1, 1)", 7);
    Run.full().due("about(4, 0)", 5).due("about(4, 1)", 4);
  }

  @Sentence(of = 13, says = "BAD.")
  static void aboutIsBad() {
    new Run().bad("about(0, 0)", "about(-1, 0)").does("person(0, 0)").due("about(0, 1)", 0).bad("about(1, 0)");
    Run.full().bad("about(5, 0)", "about(-1, 0)", "about(2147483647, 0)", "about(-2147483648, 0)", "about(0, 2)", "about(0, -1)", "about(0, 2147483647)");
  }
}
