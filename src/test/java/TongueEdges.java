/** Promises 1 to 7, and what 'Terms' says of words, pairs that are alike, people and the bytes of a text. */
final class TongueEdges {
  private static final int[] BELOW = {-1, -2, Integer.MIN_VALUE};

  private TongueEdges() {}

  // ---- promise 1

  @Sentence(of = 1, says = "As told; no WORDS, nobody.")
  static void newHasNothing() {
    Run r = new Run();
    for (int what = 0; what < 7; what++) r.due("count(" + what + ")", 0);
    r.bad("of(0, 0)", "about(0, 0)").no("undo()", "from(0)", "from(1)");
    new Run().due(0, "tongue()", "clear()", "rest()", "forget()", "status(0)", "status(1)", "status(2)");
  }

  @Sentence(of = {1, 28}, says = "THE FRACTION is 0 by 1 at first;")
  static void newHasTheFractionNoughtByOne() {
    new Run().due("part(0)", 0).due("part(1)", 1);
  }

  @Sentence(of = {1, 9}, says = "SAID: WORDS (bits) that were answered already (none at first).")
  static void newHasNothingSaid() {
    Run r = Run.echoing(10).due("count(3)", 0);
    for (int w = 0; w < 10; w++) r.due("of(" + w + ", 3)", 0);
    r.due("answers(0, 3, 1)", 1023).does("ask(0, 3, 9)").due("answers(0, 3, 1)", 511).due("of(9, 3)", 1).due("count(3)", 1);
  }

  @Sentence(of = 1, says = "An object is used for at most 512 calls after it has been made; what later calls answer is free.")
  static void the512thCallIsAnsweredToo() {
    Run r = new Run();
    for (int i = 0; i < 511; i++) r.due("word(8, 0, 0)", -2);
    r.due("status(0)", 511);
  }

  // ---- promise 2

  @Sentence(of = 2, says = "how many WORDS there were.")
  static void tongueTellsHowManyWordsThereWere() {
    new Run().due("tongue()", 0).does("word(0, 0, 0)").due("tongue()", 1).due("tongue()", 0);
    Run.full().due("tongue()", 10).due("tongue()", 0);
  }

  @Sentence(of = 2, says = "All as at first")
  static void tongueLeavesAllAsAtFirst() {
    Run r = Run.full().due("clear()", 150).due("tongue()", 10);
    for (int what = 0; what < 7; what++) r.due("count(" + what + ")", 0);
    r.due("digest()", new Run().call("digest()")).no("undo()").bad("of(0, 0)", "about(0, 0)", "hear(0, -1)");
    r.due("wants(2)", 255).due("will(0, 0)", 0).due("word(3, 4, 5)", 0).due("person(1, 6)", 0).due("hear(0, -1)", 1);
    r.due("of(0, 0)", 3).due("of(0, 1)", 4).due("of(0, 2)", 5).due("of(0, 3)", 0).due("about(0, 0)", 1).due("about(0, 1)", 6);
  }

  @Sentence(of = {2, 16, 17, 21, 22, 23, 24, 25}, says = "All as at first")
  static void behindATongueWordsThatWereCountNowhere() {
    Run r = Run.full().does("rest()", "forget()", "fewest(0, 255)", "errand(255, 0)", "two(0, 1, 0, 0)", "two(0, 1, 0, 1)", "will(2, 0)", "next(2, 0)", "worst(0)", "allow(2, 255, -1)");
    r.does("tongue()", "word(0, 0, 7)", "person(2, 0)", "person(1, 0)").due("fewest(0, 1)", 1).due("errand(1, 0)", 7);
    r.due(-1, "fewest(0, 2)", "fewest(0, 128)", "errand(2, 0)", "errand(2, 1)", "errand(255, 0)", "allow(1, 2, -1)", "allow(1, 1, -1)");
    r.due("will(2, 0)", 1).due("next(2, 0)", 0).due("next(2, 1)", 8).due("worst(0)", 0).due("two(0, 1, 0, 0)", 1).due("two(0, 1, 0, 1)", 1).due("asks(0, 1)", 0);
  }

  @Sentence(of = 2, says = "(but for IMAGES, THE TEXT, THE FRACTION, STATUS):")
  static void tongueLeavesImagesTextFractionStatus() {
    Run r = Run.full().does("rest()", "misheard(0, 0, 0, 3)").bad("word(8, 0, 0)").no("from(1)").full("word(0, 0, 0)");
    r.due("tongue()", 10).due("count(6)", 150).due("part(0)", 7).due("part(1)", 10);
    r.due("status(0)", 1).due("status(1)", 1).due("status(2)", 1);
    r.due("from(0)", 1).due("count(0)", 10).due("count(5)", 8).due("tongue()", 10).due("read()", 3).due("count(0)", 1);
  }

  // ---- promise 3

  @Sentence(of = 3, says = {"A WORD: its number.", "WORDS 0 ..", "9, as they come:"})
  static void wordsAreNumberedFromNoughtToNine() {
    Run r = new Run();
    for (int w = 0; w < 10; w++) r.due("count(0)", w).due("word(" + (7 - w % 8) + ", " + w % 8 + ", " + 2 * w + ")", w);
    for (int w = 0; w < 10; w++) r.due("of(" + w + ", 0)", 7 - w % 8).due("of(" + w + ", 1)", w % 8).due("of(" + w + ", 2)", 2 * w);
    r.due("count(0)", 10);
  }

  @Sentence(of = 3, says = "FULL: 10.")
  static void anEleventhWordIsFull() {
    Run r = new Run();
    for (int w = 0; w < 9; w++) r.does("word(0, 0, 0)");
    r.due("word(7, 7, 20)", 9).full("word(0, 0, 0)", "word(7, 7, 20)").due("count(0)", 10).due("of(9, 0)", 7).bad("of(10, 0)");
    r.due("tongue()", 10).due("word(0, 0, 0)", 0);
  }

  @Sentence(of = 3, says = "BAD;")
  static void aWordIsBadAheadOfFull() {
    Run r = new Run().bad("word(8, 0, 0)");
    for (int w = 0; w < 10; w++) r.does("word(0, 0, 0)");
    r.bad("word(8, 0, 0)", "word(0, 8, 0)", "word(0, 0, 21)", "word(-1, -1, -1)").due("status(2)", 0);
  }

  @Sentence(of = 3, says = "an ENDING (0 .. 7),")
  static void endingsAreNoughtToSeven() {
    Run r = new Run().due("word(0, 1, 1)", 0).due("word(7, 1, 1)", 1).due("of(0, 0)", 0).due("of(1, 0)", 7);
    for (int e : BELOW) r.bad("word(" + e + ", 1, 1)");
    r.bad("word(8, 1, 1)", "word(9, 1, 1)", "word(32, 1, 1)", "word(2147483647, 1, 1)").due("count(0)", 2);
  }

  @Sentence(of = 3, says = "a MEANING (0 .. 7),")
  static void meaningsAreNoughtToSeven() {
    Run r = new Run().due("word(1, 0, 1)", 0).due("word(1, 7, 1)", 1).due("of(0, 1)", 0).due("of(1, 1)", 7);
    for (int m : BELOW) r.bad("word(1, " + m + ", 1)");
    r.bad("word(1, 8, 1)", "word(1, 9, 1)", "word(1, 32, 1)", "word(1, 2147483647, 1)").due("count(0)", 2);
  }

  @Sentence(of = 3, says = "a COST (0 .. 20; of asking it).")
  static void costsAreNoughtToTwenty() {
    Run r = new Run().due("word(1, 1, 0)", 0).due("word(1, 1, 20)", 1).due("of(0, 2)", 0).due("of(1, 2)", 20);
    for (int c : BELOW) r.bad("word(1, 1, " + c + ")");
    r.bad("word(1, 1, 21)", "word(1, 1, 100)", "word(1, 1, 2147483647)").due("count(0)", 2);
    // it is the cost of asking the word, not of answering it
    new Run().does("word(0, 0, 20)", "word(0, 1, 3)", "person(0, 0)").due("errand(1, 0)", 3).due("errand(2, 0)", 20);
  }

  // ---- promise 4

  @Sentence(of = 4, says = {"A pair of ENDINGS is ALIKE (1), is not (0):", "what it was."})
  static void alikeTellsWhatItWas() {
    Run r = new Run().due("alike(0, 7, 0)", 0).due("alike(0, 7, 1)", 0).due("alike(0, 7, 1)", 1).due("count(2)", 1);
    r.due("alike(0, 7, 0)", 1).due("alike(0, 7, 0)", 0).due("count(2)", 0).due("alike(6, 7, 1)", 0).due("alike(0, 1, 1)", 0).due("count(2)", 2);
  }

  @Sentence(of = 4, says = "ALIKE: pairs of unlike ENDINGS that are allowed as half rhymes")
  static void anEndingIsNotAlikeToItself() {
    Run r = new Run().does("word(3, 0, 0)", "word(3, 1, 0)", "word(4, 2, 0)", "person(1, 0)");
    for (int e = 0; e < 8; e++) r.bad("alike(" + e + ", " + e + ", 1)", "alike(" + e + ", " + e + ", 0)");
    r.due("count(2)", 0).due("answers(0, 0, 0)", 2).does("alike(3, 4, 1)").due("answers(0, 0, 0)", 6);
    r.does("alike(3, 4, 0)").due("answers(0, 0, 0)", 2);
  }

  @Sentence(of = {4, 1}, says = "(none at first;")
  static void noPairIsAlikeAtFirst() {
    Run r = new Run().due("count(2)", 0);
    for (int a = 0; a < 8; a++) for (int b = 0; b < 8; b++) if (a != b) r.due("alike(" + a + ", " + b + ", 0)", 0);
  }

  @Sentence(of = 4, says = "either way).")
  static void alikeIsEitherWay() {
    Run r = new Run();
    int pairs = 0;
    for (int a = 0; a < 8; a++) {
      for (int b = a + 1; b < 8; b++) {
        r.due("alike(" + b + ", " + a + ", 1)", 0).due("alike(" + a + ", " + b + ", 1)", 1).due("count(2)", ++pairs);
      }
    }
    for (int a = 0; a < 8; a++) for (int b = a + 1; b < 8; b++) r.due("alike(" + a + ", " + b + ", 0)", 1).due("alike(" + b + ", " + a + ", 0)", 0);
    r.due("count(2)", 0);
    Run half = new Run().does("word(2, 0, 0)", "word(5, 0, 0)", "person(1, 0)", "alike(5, 2, 1)");
    half.due("answers(0, 0, 0)", 2).due("answers(0, 1, 0)", 1);
  }

  @Sentence(of = 4, says = "BAD.")
  static void alikeIsBad() {
    Run r = new Run();
    for (int e : BELOW) r.bad("alike(" + e + ", 3, 1)", "alike(3, " + e + ", 1)", "alike(3, 4, " + e + ")");
    for (int e : new int[] {8, 9, 33, Integer.MAX_VALUE}) r.bad("alike(" + e + ", 3, 1)", "alike(3, " + e + ", 1)");
    r.bad("alike(3, 4, 2)", "alike(3, 4, 2147483647)", "alike(8, 8, 1)", "alike(-1, -1, 1)").due("count(2)", 0);
  }

  // ---- promise 5

  @Sentence(of = 5, says = {"A PERSON: the number.", "PEOPLE 0 .. 4, as they come:"})
  static void peopleAreNumberedFromNoughtToFour() {
    Run r = new Run();
    for (int p = 0; p < 5; p++) r.due("count(1)", p).due("person(" + (5 - p) + ", " + (p + 3) + ")", p);
    for (int p = 0; p < 5; p++) r.due("about(" + p + ", 0)", 5 - p).due("about(" + p + ", 1)", p + 3);
    r.due("count(1)", 5);
  }

  @Sentence(of = 5, says = "FULL: 5.")
  static void aSixthPersonIsFull() {
    Run r = new Run();
    for (int p = 0; p < 4; p++) r.does("person(0, 0)");
    r.due("person(5, 7)", 4).full("person(0, 0)", "person(5, 7)").due("count(1)", 5).due("about(4, 0)", 5).bad("about(5, 0)");
    r.does("tongue()").due("person(0, 0)", 0);
  }

  @Sentence(of = 5, says = "BAD;")
  static void aPersonIsBadAheadOfFull() {
    Run r = new Run().bad("person(6, 0)");
    for (int p = 0; p < 5; p++) r.does("person(0, 0)");
    r.bad("person(6, 0)", "person(0, 8)", "person(-1, 0)", "person(0, -1)").due("status(2)", 0);
  }

  @Sentence(of = 5, says = "a KIND, a WANT (a MEANING).")
  static void kindsAreNoughtToFiveWantsNoughtToSeven() {
    Run r = new Run().due("person(0, 0)", 0).due("person(5, 7)", 1);
    for (int v : BELOW) r.bad("person(" + v + ", 0)", "person(0, " + v + ")");
    r.bad("person(6, 0)", "person(7, 0)", "person(2147483647, 0)", "person(0, 8)", "person(0, 9)", "person(0, 2147483647)");
    r.due("count(1)", 2).due("about(0, 0)", 0).due("about(0, 1)", 0).due("about(1, 0)", 5).due("about(1, 1)", 7);
  }

  // ---- promises 6 and 7

  @Sentence(of = 6, says = {"A byte (0 .. 127) comes behind THE TEXT:", "BAD;"})
  static void bytesAreNoughtTo127() {
    Run r = new Run().due("type(0)", 1).due("type(127)", 2);
    for (int c : BELOW) r.bad("type(" + c + ")");
    r.bad("type(128)", "type(255)", "type(256)", "type(2147483647)").due("count(6)", 2);
    // behind, not ahead
    new Run().type("tongue;").does("type(57)").due("read()", -17);
  }

  @Sentence(of = 6, says = "how many it has.")
  static void typeTellsHowManyBytesThereAre() {
    Run r = new Run();
    for (int n = 1; n <= 150; n++) r.due("type(32)", n);
    r.due("clear()", 150).due("type(32)", 1);
  }

  @Sentence(of = {6, 8}, says = "(150 bytes at most)")
  static void aTextOf150BytesIsReadWhole() {
    new Run().type("tongue;" + " ".repeat(132) + "word 1 2 3;").due("count(6)", 150).due("read()", 2).due("count(0)", 1);
    new Run().type("tongue;" + " ".repeat(142) + ";").due("count(6)", 150).due("read()", -159);
  }

  @Sentence(of = 6, says = "FULL.")
  static void a151stByteIsFull() {
    Run r = new Run().type("tongue;" + " ".repeat(142)).due("count(6)", 149).due("type(32)", 150).full("type(59)", "type(0)", "type(127)");
    r.due("count(6)", 150).due("read()", 1);
    // BAD is looked at first
    r.bad("type(128)", "type(-1)").due("status(2)", 3).due("clear()", 150).due("type(59)", 1);
  }

  @Sentence(of = 7, says = "THE TEXT is empty:")
  static void clearLeavesAnEmptyText() {
    new Run().type("tongue;").does("clear()").due("count(6)", 0).due("read()", -10).type("tongue").due("read()", -16).type(";").due("read()", 1);
    Run r = Run.peopled().does("ask(0, 0, 1)", "hear(0, 1)");
    long digest = r.call("digest()");
    r.type("x").does("clear()").due("digest()", digest).due("undo()", 0);
  }

  @Sentence(of = 7, says = "how many it had.")
  static void clearTellsHowManyBytesThereWere() {
    new Run().due("clear()", 0).does("type(1)").due("clear()", 1).due("clear()", 0);
    new Run().type(" ".repeat(150)).due("clear()", 150).due("clear()", 0).due("count(6)", 0);
  }
}
