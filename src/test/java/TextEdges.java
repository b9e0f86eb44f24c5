/** Promise 8, and what 'Terms' says of a tongue that is told by a text: where a FAULT stands. */
final class TextEdges {
  private TextEdges() {}

  private static void items(String text, int items) {
    new Run().type(text).due("read()", items);
  }

  /** All stays: what there is, what may be undone, the text itself. */
  private static void fault(String text, int place) {
    Run r = Run.peopled().does("ask(0, 0, 1)", "ask(2, 4, 4)", "hear(1, -1)").type(text);
    long digest = r.call("digest()");
    r.due("read()", -10 - place).due("digest()", digest).due("read()", -10 - place).due("undo()", 1).due("of(1, 3)", 1).due("undo()", 0);
  }

  // ---- the promise's own words

  @Sentence(of = 8, says = "THE TONGUE is read: how many ITEMS.")
  static void readTellsHowManyItems() {
    items("tongue;", 1);
    items("tongue;word 0 0 0;", 2);
    items("tongue;word 0 0 3;word 0 1 5;word 1 2 2;alike 0 1;person 0 0;person 5 3;", 7);
    items("tongue;" + "alike 0 1;".repeat(14) + "   ", 15);
    new Run().type("tongue;word 7 6 20;").due("read()", 2).due("read()", 2).due("count(0)", 1);
  }

  @Sentence(of = 8, says = "-10 less the FAULT: all stays.")
  static void aFaultIsMinusTenLessItsPlace() {
    fault(";", 0);
    fault("tongue;word 3 3 3;person 3 3;alike 3 4;tongue;", 39);
    fault("tongue;" + " ".repeat(142) + "x", 149);
    fault("tongue;" + " ".repeat(139) + "word", 150);
    // what was read ahead of a FAULT is not there when another text is read
    Run r = new Run().type("tongue;word 0 0 0;alike 0 1;person 0 0;x").due("read()", -49);
    r.text("tongue;").due("read()", 1).due(0, "count(0)", "count(1)", "count(2)");
  }

  // ---- what a text is

  @Sentence(of = 8, says = {"THE TONGUE is told by a TEXT", "of ITEMS, each ended by ; :"})
  static void eachItemIsEndedByAStop() {
    fault("tongue", 6);
    fault("tongue word 0 0 0;", 7);
    fault("tongue;word 0 0 0", 17);
    fault("tongue;word 0 0 0 word 0 0 0;", 18);
    fault("tongue;alike 0 1 alike 0 2;", 17);
    fault("tongue;person 0 0 person 0 0;", 18);
    fault("tongue;;", 7);
    fault("tongue;word 0 0 0;;", 18);
    items("tongue;alike 0 1;alike 0 2;", 3);
  }

  @Sentence(of = 8, says = "tongue (once, first of all);")
  static void tongueStandsOnceAndFirst() {
    items("tongue;", 1);
    fault("tongue;tongue;", 7);
    fault("alike 0 1;tongue;", 0);
    fault("tongue;word 0 0 0;tongue;", 18);
  }

  @Sentence(of = 8, says = "word ENDING MEANING COST;")
  static void aWordIsEndingMeaningCost() {
    Run r = new Run().type("tongue;word 7 6 20;word 0 0 0;").due("read()", 3).due("count(0)", 2);
    r.due("of(0, 0)", 7).due("of(0, 1)", 6).due("of(0, 2)", 20).due("of(0, 3)", 0).due(0, "of(1, 0)", "of(1, 1)", "of(1, 2)");
    items("tongue;word 0 7 0;", 2);
    fault("tongue;word 0 0;", 15);
    fault("tongue;word 0;", 13);
    fault("tongue;word;", 11);
    fault("tongue;word 0 0 0 0;", 18);
  }

  @Sentence(of = 8, says = "alike a b;")
  static void alikeIsTwoEndings() {
    new Run().type("tongue;alike 0 7;alike 7 0;alike 6 5;").due("read()", 4).due("count(2)", 2).due(1, "alike(7, 0, 1)", "alike(5, 6, 1)");
    fault("tongue;alike 1;", 14);
    fault("tongue;alike;", 12);
    fault("tongue;alike 0 1 1;", 17);
  }

  @Sentence(of = 8, says = "person KIND WANT.")
  static void aPersonIsKindWant() {
    Run r = new Run().type("tongue;person 5 7;person 0 0;").due("read()", 3).due("count(1)", 2);
    r.due("about(0, 0)", 5).due("about(0, 1)", 7).due(0, "about(1, 0)", "about(1, 1)");
    fault("tongue;person 0;", 15);
    fault("tongue;person;", 13);
    fault("tongue;person 0 0 0;", 18);
  }

  @Sentence(of = 8, says = "TOKENS: words of letters a .. z,")
  static void lettersAreSmallOnes() {
    // the bytes next to a and z, and the great letters
    fault("tongue`;", 6);
    fault("tongue{;", 6);
    fault("TONGUE;", 0);
    fault("tonguE;", 0);
    fault("tongue;Word 0 0 0;", 7);
    fault("tongue;zebra 0;", 7);
    fault("tongue;aword 0 0 0;", 7);
    fault("tongue;wordz 0 0 0;", 7);
  }

  @Sentence(of = 8, says = "figures (1 or 2 are one number),")
  static void oneOrTwoFiguresAreANumber() {
    Run r = new Run().type("tongue;word 07 00 09;word 1 2 10;alike 03 4;person 05 06;").due("read()", 5);
    r.due("of(0, 0)", 7).due("of(0, 1)", 0).due("of(0, 2)", 9).due("of(1, 2)", 10).due("count(0)", 2).due("alike(3, 4, 1)", 1);
    r.due("about(0, 0)", 5).due("about(0, 1)", 6);
    // two numbers of a figure each are not one of two
    fault("tongue;word 0 0 1 0;", 18);
    // the bytes next to 0 and 9
    fault("tongue;word 0 0 /;", 16);
    fault("tongue;word 0 0 :;", 16);
    fault("tongue;word 0 0 1/;", 17);
    fault("tongue;word 0 0 1:;", 17);
  }

  @Sentence(of = 8, says = "; ; blanks (32) between.")
  static void blanksStandBetween() {
    items("   tongue   ;   word   0   0   0   ;   ", 2);
    items("tongue ;alike 0 1 ;person 0 0 ;", 3);
    // tokens that can be told apart need none
    items("tongue;word0 0 0;person5 0;", 3);
    // nothing but 32 is a blank, and a blank within a word makes two of it
    fault("tongue;" + (char) 31 + "word 0 0 0;", 7);
    fault("tongue;!word 0 0 0;", 7);
    fault("tongue;\tword 0 0 0;", 7);
    fault("tongue;\n", 7);
    fault("tongue\r;", 6);
    fault("ton gue;", 0);
    fault("tongue;wo rd 0 0 0;", 7);
  }

  // ---- where a FAULT stands

  @Sentence(of = 8, says = "FAULT: the place of the first byte of the first TOKEN that can not stand there")
  static void theFaultIsTheFirstByteOfTheFirstSuchToken() {
    fault("tongue;  words 9 9 99;", 9);
    fault("tongue;word 0  21 0;", 15);
    fault("tongue;word 9 9 99;tongue;", 12);
    fault("  tongues;", 2);
    fault("tongue;word 0 0 0;   alike 0 word;", 29);
  }

  @Sentence(of = 8, says = "(a word that is none,")
  static void aWordThatIsNone() {
    fault("tongues;", 0);
    fault("tong;", 0);
    fault("t;", 0);
    fault("longue;", 0);
    fault("tongua;", 0);
    fault("tongue;bord 0 0 0;", 7);
    fault("tongue;elike 0 1;", 7);
    fault("tongue;verson 0 0;", 7);
    fault("tongue;words 0 0 0;", 7);
    fault("tongue;wor 0 0 0;", 7);
    fault("tongue;alik 0 1;", 7);
    fault("tongue;alikes 0 1;", 7);
    fault("tongue;persom 0 0;", 7);
    fault("tongue;persons 0 0;", 7);
    fault("tongue;wordword 0 0 0;", 7);
    fault("tongue;wor", 7);
    // a word that is one, where a number is due, can not stand there either
    fault("tongue;word word 0 0;", 12);
    fault("tongue;7;", 7);
  }

  @Sentence(of = 8, says = "tongue again,")
  static void tongueAgain() {
    fault("tongue;tongue;", 7);
    fault("tongue tongue;", 7);
    fault("tongue;word 0 0 0; tongue;", 19);
    fault("tongue;word tongue 0 0;", 12);
  }

  @Sentence(of = 8, says = "anything ahead of it,")
  static void anythingAheadOfTongue() {
    fault("word 0 0 0;tongue;", 0);
    fault("alike 0 1;tongue;", 0);
    fault("person 0 0;tongue;", 0);
    fault(";tongue;", 0);
    fault("  ; tongue;", 2);
    fault("1 tongue;", 0);
    fault("x tongue;", 0);
    fault("?tongue;", 0);
  }

  @Sentence(of = 8, says = "an 11th word,")
  static void anEleventhWord() {
    String ten = "tongue;" + "word 0 0 0;".repeat(10);
    items(ten, 11);
    fault(ten + "word 0 0 0;", 117);
    fault(ten + "  word", 119);
    fault(ten + "word 8 8 99;", 117);
    items(ten + "person 0 0;alike 0 1;", 13);
  }

  @Sentence(of = 8, says = "a 6th person at its word,")
  static void aSixthPerson() {
    String five = "tongue;" + "person 0 0;".repeat(5);
    items(five, 6);
    fault(five + "person 0 0;", 62);
    fault(five + "  person", 64);
    fault(five + "person 6 8;", 62);
    items(five + "word 0 0 0;alike 0 1;", 8);
  }

  @Sentence(of = 8, says = "a third figure's number,")
  static void aNumberWithAThirdFigure() {
    fault("tongue;word 0 0 100;", 16);
    fault("tongue;word 0 0 020;", 16);
    fault("tongue;word 000 0 0;", 12);
    fault("tongue;word 0 001 0;", 14);
    fault("tongue;alike 001 2;", 13);
    fault("tongue;person 0 0000;", 16);
    fault("tongue;word 0 0 12345678901234567890;", 16);
  }

  @Sentence(of = 8, says = "a number not as told,")
  static void aNumberNotAsTold() {
    items("tongue;word 7 7 20;person 5 7;alike 7 6;", 4);
    fault("tongue;word 8 0 0;", 12);
    fault("tongue;word 99 0 0;", 12);
    fault("tongue;word 0 8 0;", 14);
    fault("tongue;word 0 10 0;", 14);
    fault("tongue;word 0 0 21;", 16);
    fault("tongue;word 0 0 99;", 16);
    fault("tongue;alike 8 0;", 13);
    fault("tongue;alike 0 8;", 15);
    fault("tongue;person 6 0;", 14);
    fault("tongue;person 0 8;", 16);
    fault("tongue;word 0 0 -1;", 16);
  }

  @Sentence(of = 8, says = "also two ENDINGS alike,")
  static void twoEndingsAlike() {
    fault("tongue;alike 0 0;", 15);
    fault("tongue;alike 7 7;", 15);
    fault("tongue;alike 03   3;", 18);
    fault("tongue;alike 8 8;", 13);
  }

  @Sentence(of = 8, says = "a byte that begins none, too);")
  static void aByteThatBeginsNone() {
    for (char c : new char[] {0, 1, 31, '!', '-', '.', '/', ':', '<', '@', 'A', 'Z', '[', '`', '{', 127}) {
      fault("tongue;" + c + ";", 7);
      fault("tongue" + c, 6);
    }
    fault("-", 0);
    fault("tongue;word 0 0 0,", 17);
  }

  @Sentence(of = 8, says = "the TEXT's length, if it ends too early")
  static void aTextThatEndsTooEarly() {
    String whole = "tongue;word 1 2 3;alike 4 5;person 2 6;";
    String begun = "";
    int items = 0;
    for (int n = 1; n <= whole.length(); n++) {
      char c = whole.charAt(n - 1);
      begun = c >= 'a' && c <= 'z' ? begun + c : "";
      if (c == ';') items++;
      // a word that is cut is a word that is none
      boolean cut = !begun.isEmpty() && !begun.matches("tongue|word|alike|person");
      long due = c == ';' ? items : cut ? -10 - (n - begun.length()) : -10 - n;
      new Run().type(whole.substring(0, n)).due("read()", due);
    }
    fault("tongue;word 0   ", 16);
    fault("tongue;" + " ".repeat(133) + "word 0 0 1", 150);
  }

  @Sentence(of = 8, says = "(an empty one, too).")
  static void anEmptyText() {
    fault("", 0);
    fault(" ", 1);
    fault(" ".repeat(150), 150);
    Run.peopled().type("tongue;").does("clear()").due("read()", -10).due("count(0)", 5);
  }

  // ---- what it takes the place of

  @Sentence(of = 8, says = "A TONGUE that is read takes the place of all but IMAGES, THE TEXT, THE FRACTION, STATUS")
  static void aTongueTakesThePlaceOfAllButThese() {
    Run r = Run.full().does("rest()", "misheard(0, 0, 0, 3)").bad("word(8, 0, 0)").no("from(1)").full("word(0, 0, 0)");
    r.due("read()", 3).due("count(0)", 1).due("count(1)", 1).due("count(2)", 0);
    r.due("about(0, 0)", 2).due("of(0, 0)", 0).bad("of(1, 0)", "about(1, 0)");
    r.due("count(6)", 150).due("part(0)", 7).due("part(1)", 10).due("status(1)", 1).due("status(2)", 1);
    r.due("from(0)", 1).due("count(0)", 10).due("count(1)", 5).due("count(2)", 28).no("from(1)");
    // words, people and pairs that come then come behind those that were read
    Run.full().due("read()", 3).due("word(1, 1, 1)", 1).due("person(1, 1)", 1).due("alike(3, 4, 1)", 0);
  }

  @Sentence(of = 8, says = "(SAID, HEARD none; nothing to undo).")
  static void nothingIsSaidHeardOrUndoneThen() {
    Run r = Run.full().due("count(3)", 10).due("count(4)", 6).due("count(5)", 8).due("read()", 3);
    r.due(0, "count(3)", "count(4)", "count(5)", "of(0, 3)").due("wants(0)", 255).no("undo()").due("forget()", 0).due("rest()", 0);
    r.due("ask(0, 0, 0)", 0).due("undo()", 0);
  }
}
