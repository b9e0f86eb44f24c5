/** Promises 26 to 28, and what 'Terms' says of words that are misheard, THE FRACTION and talks by a seed. */
final class LotsEdges {
  private LotsEdges() {}

  private static void chance(Run r, String call, int above, int below) {
    r.due(call, 1).due("part(0)", above).due("part(1)", below);
  }

  /** Words 0 .. 7 that rhyme with none, of the meanings 0 .. 7, and an echo. */
  private static Run apart() {
    Run r = new Run();
    for (int w = 0; w < 8; w++) r.does("word(" + w + ", " + w + ", 0)");
    return r.does("person(2, 0)");
  }

  // ---- promise 26

  @Sentence(of = 26, says = {"MISHEARD is THE FRACTION: 1.", "MISHEARD: asked a WORD one hears it by 10 less c of 10,", "the chance that he CAN SAY a MEANING: THE FRACTION."})
  static void theChanceIsTheFraction() {
    Run r = apart();
    int[][] due = {{1, 1}, {9, 10}, {4, 5}, {7, 10}, {3, 5}, {1, 2}, {2, 5}, {3, 10}, {1, 5}, {1, 10}, {0, 1}};
    for (int c = 0; c <= 10; c++) chance(r, "misheard(0, 3, 3, " + c + ")", due[c][0], due[c][1]);
    for (int c = 0; c <= 10; c++) chance(r, "misheard(0, 2, 3, " + c + ")", due[10 - c][0], due[10 - c][1]);
    // to either of them, to neither of them
    Run.echoing(10).due("misheard(0, 0, 7, 3)", 1).due("part(0)", 1).due("part(1)", 1).does("ask(0, 0, 7)", "misheard(0, 0, 7, 3)").due("part(0)", 0).due("part(1)", 1);
  }

  @Sentence(of = 26, says = "else the next one (0 behind the last),")
  static void behindTheLastComesTheFirst() {
    chance(apart(), "misheard(0, 7, 0, 10)", 1, 1);
    chance(apart(), "misheard(0, 7, 0, 3)", 3, 10);
    chance(apart(), "misheard(0, 6, 7, 3)", 3, 10);
    chance(apart(), "misheard(0, 7, 7, 3)", 7, 10);
    // the last but one is not behind the last
    chance(apart(), "misheard(0, 6, 0, 10)", 0, 1);
    // of one word the next is itself
    chance(new Run().does("word(0, 5, 0)", "person(2, 0)"), "misheard(0, 0, 5, 10)", 1, 1);
    chance(Run.full().does("rest()"), "misheard(0, 9, 0, 4)", 2, 5);
  }

  @Sentence(of = 26, says = "c 0 .. 10:")
  static void oddsAreNoughtToTen() {
    chance(apart().bad("misheard(0, 0, 0, -1)", "misheard(0, 0, 0, 11)", "misheard(0, 0, 0, 2147483647)"), "misheard(0, 0, 0, 0)", 1, 1);
    chance(apart().bad("misheard(0, 0, 0, -2147483648)"), "misheard(0, 0, 0, 10)", 0, 1);
  }

  @Sentence(of = 26, says = "BAD.")
  static void misheardIsBad() {
    new Run().bad("misheard(0, 0, 0, 0)");
    Run r = apart().does("misheard(0, 3, 3, 3)").bad("misheard(-1, 0, 0, 0)", "misheard(1, 0, 0, 0)", "misheard(2147483647, 0, 0, 0)");
    r.bad("misheard(0, -1, 0, 0)", "misheard(0, 8, 0, 0)", "misheard(0, 2147483647, 0, 0)", "misheard(0, -2147483648, 0, 0)");
    r.bad("misheard(0, 0, -1, 0)", "misheard(0, 0, 8, 0)", "misheard(0, 0, 32, 0)", "misheard(0, 0, 0, 11)", "misheard(0, 0, 0, -1)");
    r.due("part(0)", 7).due("part(1)", 10);
    Run.five().bad("misheard(0, 0, 0, 0)");
    new Run().does("person(0, 0)").bad("misheard(0, 0, 0, 0)");
  }

  // ---- promise 27

  @Sentence(of = 27, says = {
      "TALKS.",
      "X is SEED at first; each time X becomes X times 1103515245 and 12345, by 2147483648 what is left over; X by 65536 (cut), by how many WORDS left over,"})
  static void lotsByASeed() {
    // by seed 1 the lots are 16838 5758 10113 17515 31051 5627 23010 7419 16212 4086: of eight words 6 6 1 3 3 3 2 3 4 6
    int[] due = {0, 1, 1, 2, 3, 3, 4, 5, 5, 6, 7};
    Run r = apart();
    for (int n = 0; n < due.length; n++) r.due("talks(1, " + n + ")", due[n]);
    // the lots of any seed, for an echo of words that rhyme with none
    for (int seed : new int[] {0, 2, 4711, 65535, 65536, 123456, 500000, 999998, 999999}) {
      for (int n : new int[] {1, 2, 7, 30, 59, 60}) r.due("talks(" + seed + ", " + n + ")", answersOfAnEcho(seed, n, 8, 1));
    }
  }

  /** Of so many people only the first, an echo, has answers. */
  private static int answersOfAnEcho(int seed, int n, int words, int people) {
    java.math.BigInteger lot = java.math.BigInteger.valueOf(seed);
    boolean[] said = new boolean[words];
    int answers = 0;
    for (int i = 0; i < n; i++) {
      lot = lot.multiply(java.math.BigInteger.valueOf(1103515245)).add(java.math.BigInteger.valueOf(12345)).mod(java.math.BigInteger.ONE.shiftLeft(31));
      int w = lot.shiftRight(16).intValue() % words;
      if (i % people == 0 && !said[w]) {
        said[w] = true;
        answers++;
      } else {
        said = new boolean[words];
      }
    }
    return answers;
  }

  @Sentence(of = 27, says = "TALKS by a SEED (0 .. 999999), n (0 .. 60),")
  static void seedsAndHowManyTimes() {
    Run r = apart().due(0, "talks(0, 0)", "talks(999999, 0)").due("talks(0, 60)", answersOfAnEcho(0, 60, 8, 1)).due("talks(999999, 60)", answersOfAnEcho(999999, 60, 8, 1));
    r.bad("talks(-1, 0)", "talks(1000000, 0)", "talks(2147483647, 0)", "talks(-2147483648, 0)", "talks(0, -1)", "talks(0, 61)", "talks(0, 2147483647)");
  }

  @Sentence(of = 27, says = "SAID as it is at first:")
  static void talksBeginWithWhatIsSaid() {
    Run r = new Run().does("word(0, 0, 0)", "person(2, 0)").due("talks(5, 1)", 1).does("ask(0, 0, 0)").due("talks(5, 1)", 0).due("talks(5, 2)", 1).due("talks(5, 60)", 30);
    // and change nothing
    r.due("count(3)", 1).due("of(0, 3)", 1).due("undo()", 0).due("talks(5, 60)", 30).due("count(3)", 0);
  }

  @Sentence(of = 27, says = "is asked of the next PERSON (0 first, by numbers, 0 behind the last):")
  static void thePeopleAreAskedByTurns() {
    // one word: echoes and rhymers, of which a rhymer says nothing, and from then on nothing is said
    Run r = new Run().does("word(0, 0, 0)", "person(2, 0)", "person(0, 0)");
    r.due("talks(9, 1)", 1).due("talks(9, 2)", 1).due("talks(9, 3)", 2).due("talks(9, 60)", 30);
    r.does("person(0, 0)").due("talks(9, 3)", 1).due("talks(9, 4)", 2).due("talks(9, 60)", 20);
    r.does("person(0, 0)", "person(0, 0)").due("talks(9, 5)", 1).due("talks(9, 6)", 2).due("talks(9, 59)", 12).due("talks(9, 60)", 12);
    new Run().does("word(0, 0, 0)", "person(0, 0)", "person(2, 0)").due("talks(9, 1)", 0).due("talks(9, 2)", 1).due("talks(9, 3)", 1).due("talks(9, 4)", 2);
    Run three = apart().does("person(0, 0)", "person(0, 0)");
    for (int n = 55; n <= 60; n++) three.due("talks(77, " + n + ")", answersOfAnEcho(77, n, 8, 3));
  }

  @Sentence(of = 27, says = "he answers his first ANSWER of the MEANING he WANTS, else his first ANSWER, that is SAID;")
  static void heAnswersWhatHeWants() {
    // by seed 1 of two words the lots are 0 0 1: an echo who wants 5 says 1, and a rhymer asked 0 has it no more
    Run wants = new Run().does("word(0, 0, 0)", "word(0, 5, 0)", "person(2, 5)", "person(0, 0)");
    wants.due("talks(1, 1)", 1).due("talks(1, 2)", 1);
    // an echo who wants 0, or what no word has, says 0, and the rhymer has 1
    for (int want : new int[] {0, 7}) {
      Run first = new Run().does("word(0, 0, 0)", "word(0, 5, 0)", "person(2, " + want + ")", "person(0, 5)");
      first.due("talks(1, 1)", 1).due("talks(1, 2)", 2);
    }
    // he wants 5, but 1 is said: he says his first answer
    new Run().does("word(0, 0, 0)", "word(0, 5, 0)", "person(2, 5)", "ask(0, 0, 1)").due("talks(1, 1)", 1).due("talks(1, 2)", 1);
    // by seed 1 of three words the lots are 2 1: of two that he wants one with a card says the first, 1, and an echo asked 1 has it no more
    Run both = new Run().does("word(0, 0, 0)", "word(1, 5, 0)", "word(2, 5, 0)", "person(5, 5)", "person(2, 0)");
    both.due("talks(1, 1)", 1).due("talks(1, 2)", 1);
    // what he answers is said: a third one, asked 1, has nothing
    Run third = new Run().does("word(0, 0, 0)", "word(0, 1, 0)", "person(2, 7)", "person(3, 7)", "person(3, 7)");
    third.due("talks(1, 1)", 1).due("talks(1, 2)", 2).due("talks(1, 3)", 2);
  }

  @Sentence(of = 27, says = "else nothing, and from then on nothing is SAID: how many answers;")
  static void whoHasNoAnswerLeavesNothingSaid() {
    Run r = new Run().does("word(0, 0, 0)", "person(2, 0)");
    for (int n = 0; n <= 60; n++) r.due("talks(3, " + n + ")", (n + 1) / 2);
    Run.echoing(10).due("talks(1, 10)", 10).due("talks(1, 11)", 10).due("talks(1, 12)", 11).due("talks(1, 60)", 55);
    new Run().does("word(0, 0, 0)", "person(0, 0)").due(0, "talks(1, 0)", "talks(1, 1)", "talks(1, 60)");
  }

  @Sentence(of = 27, says = {"NONE.", "none: no WORDS, or nobody."})
  static void noTalks() {
    new Run().due(-1, "talks(0, 0)", "talks(999999, 60)");
    new Run().does("word(0, 0, 0)").due(-1, "talks(0, 0)", "talks(1, 60)").does("person(2, 0)").due("talks(0, 0)", 0).due("talks(1, 1)", 1);
    new Run().does("person(2, 0)").due(-1, "talks(0, 0)", "talks(1, 60)");
  }

  @Sentence(of = 27, says = "BAD.")
  static void talksIsBadAheadOfNone() {
    new Run().bad("talks(1000000, 0)", "talks(-1, 0)", "talks(0, 61)", "talks(0, -1)");
    new Run().does("word(0, 0, 0)").bad("talks(1000000, 0)", "talks(0, 61)");
  }

  // ---- promise 28

  @Sentence(of = {28, 26}, says = "lowest terms, below above 0.")
  static void lowestTerms() {
    Run r = apart();
    for (int c = 0; c <= 10; c++) {
      int common = java.math.BigInteger.TEN.gcd(java.math.BigInteger.valueOf(10 - c)).intValue();
      chance(r, "misheard(0, 3, 3, " + c + ")", (10 - c) / common, 10 / common);
    }
    chance(r, "misheard(0, 3, 7, 5)", 0, 1);
  }

  @Sentence(of = 28, says = "THE FRACTION: above (0), below (1).")
  static void theFractionsParts() {
    Run r = apart().due("part(0)", 0).due("part(1)", 1).does("misheard(0, 3, 3, 4)").due("part(0)", 3).due("part(1)", 5).due("part(0)", 3);
    // no other call than misheard sets it
    r.does("talks(1, 60)", "fewest(0, 255)", "image(0)", "from(0)", "rest()", "forget()", "clear()", "tongue()").due("part(0)", 3).due("part(1)", 5);
  }

  @Sentence(of = 28, says = "BAD.")
  static void partIsBad() {
    new Run().bad("part(-1)", "part(2)", "part(2147483647)", "part(-2147483648)");
  }
}
