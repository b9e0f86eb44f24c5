/** Each promise of the document by its number: ordinary inputs, the edges it names, wrong inputs. */
public final class PromisesTest {
  private static int wrong = 0;

  private static void due(int promise, String what, long got, long want) {
    if (got != want) {
      wrong++;
      System.out.println("promise " + promise + ": " + what + " answered " + got + ", due is " + want);
    }
  }

  private static void refused(int promise, OnlyRhymes x, int bad, int no, int full) {
    due(promise, "status(0)", x.status(0), bad);
    due(promise, "status(1)", x.status(1), no);
    due(promise, "status(2)", x.status(2), full);
  }

  /** Words 0 .. 4 with endings 0 0 1 1 2 and meanings 0 1 2 0 3, costs 3 5 2 9 1; 0 and 1 are alike. */
  private static OnlyRhymes five() {
    OnlyRhymes x = new OnlyRhymes();
    x.word(0, 0, 3);
    x.word(0, 1, 5);
    x.word(1, 2, 2);
    x.word(1, 0, 9);
    x.word(2, 3, 1);
    x.alike(0, 1, 1);
    return x;
  }

  /** five() with a person of each kind 0 .. 4, who wants meaning 2. */
  private static OnlyRhymes peopled() {
    OnlyRhymes x = five();
    for (int kind = 0; kind < 5; kind++) x.person(kind, 2);
    return x;
  }

  private static OnlyRhymes told(String text) {
    OnlyRhymes x = new OnlyRhymes();
    tell(x, text);
    return x;
  }

  private static void tell(OnlyRhymes x, String text) {
    x.clear();
    for (int i = 0; i < text.length(); i++) x.type(text.charAt(i));
  }

  /** Ten words of ending 0, of the meanings 0 .. 7 and 0, 1; an echo and a rhymer who want 7. */
  private static OnlyRhymes ten() {
    OnlyRhymes x = new OnlyRhymes();
    for (int w = 0; w < 10; w++) x.word(0, w % 8, w);
    x.person(2, 7);
    x.person(0, 7);
    return x;
  }

  private static void newObject() {
    OnlyRhymes x = new OnlyRhymes();
    for (int what = 0; what < 7; what++) due(1, "count(" + what + ")", x.count(what), 0);
    due(1, "part(0)", x.part(0), 0);
    due(1, "part(1)", x.part(1), 1);
    due(1, "from(0)", x.from(0), -3);
    due(1, "from(1)", x.from(1), -3);
    refused(1, x, 0, 2, 0);
    due(1, "NONE", OnlyRhymes.NONE, -1);
    due(1, "BAD", OnlyRhymes.BAD, -2);
    due(1, "NO", OnlyRhymes.NO, -3);
    due(1, "FULL", OnlyRhymes.FULL, -4);
  }

  private static void tongue() {
    OnlyRhymes x = peopled();
    x.ask(0, 0, 1);
    x.hear(0, 1);
    x.type('t');
    x.misheard(1, 3, 0, 3);
    x.image(0);
    x.word(9, 9, 9);
    due(2, "tongue()", x.tongue(), 5);
    for (int what = 0; what < 6; what++) due(2, "count(" + what + ")", x.count(what), 0);
    due(2, "the text stays", x.count(6), 1);
    due(2, "the fraction stays", x.part(1), 10);
    due(2, "undo()", x.undo(), -3);
    refused(2, x, 1, 1, 0);
    due(2, "tongue() again", x.tongue(), 0);
    due(2, "the image stays", x.from(0), 1);
    due(2, "count(0)", x.count(0), 5);
    due(2, "alike was forgotten in between, not in the image", x.count(2), 1);
    x.tongue();
    for (int a = 0; a < 8; a++) for (int b = 0; b < a; b++) due(2, "alike", x.alike(a, b, 1), 0);
    x.tongue();
    for (int a = 0; a < 8; a++) for (int b = 0; b < a; b++) due(2, "alike again", x.alike(b, a, 1), 0);
    due(2, "all pairs", x.count(2), 28);
  }

  private static void word() {
    OnlyRhymes x = new OnlyRhymes();
    due(3, "word(-1, 0, 0)", x.word(-1, 0, 0), -2);
    due(3, "word(8, 0, 0)", x.word(8, 0, 0), -2);
    due(3, "word(0, -1, 0)", x.word(0, -1, 0), -2);
    due(3, "word(0, 8, 0)", x.word(0, 8, 0), -2);
    due(3, "word(0, 0, -1)", x.word(0, 0, -1), -2);
    due(3, "word(0, 0, 21)", x.word(0, 0, 21), -2);
    for (int w = 0; w < 10; w++) due(3, "word(7, 7, 20)", x.word(7, 7, 20), w);
    due(3, "an 11th", x.word(0, 0, 0), -4);
    due(3, "an 11th that is BAD", x.word(8, 0, 0), -2);
    refused(3, x, 7, 0, 1);
    due(3, "count(0)", x.count(0), 10);
    OnlyRhymes y = peopled();
    y.ask(0, 0, 1);
    y.word(9, 0, 0);
    due(3, "a refused word leaves the undo", y.count(5), 1);
    y.word(2, 2, 2);
    due(3, "behind a word none may be undone", y.undo(), -3);
    due(3, "what is said stays", y.count(3), 1);
  }

  private static void alike() {
    OnlyRhymes x = new OnlyRhymes();
    due(4, "alike(0, 7, 1)", x.alike(0, 7, 1), 0);
    due(4, "alike(7, 0, 1)", x.alike(7, 0, 1), 1);
    due(4, "count(2)", x.count(2), 1);
    due(4, "alike(3, 2, 1)", x.alike(3, 2, 1), 0);
    due(4, "count(2)", x.count(2), 2);
    due(4, "alike(7, 0, 0)", x.alike(7, 0, 0), 1);
    due(4, "alike(0, 7, 0)", x.alike(0, 7, 0), 0);
    due(4, "alike(4, 4, 1)", x.alike(4, 4, 1), -2);
    due(4, "alike(-1, 4, 1)", x.alike(-1, 4, 1), -2);
    due(4, "alike(8, 4, 1)", x.alike(8, 4, 1), -2);
    due(4, "alike(4, -1, 1)", x.alike(4, -1, 1), -2);
    due(4, "alike(4, 8, 1)", x.alike(4, 8, 1), -2);
    due(4, "alike(4, 5, 2)", x.alike(4, 5, 2), -2);
    due(4, "alike(4, 5, -1)", x.alike(4, 5, -1), -2);
    due(4, "count(2)", x.count(2), 1);
    refused(4, x, 7, 0, 0);
  }

  private static void person() {
    OnlyRhymes x = new OnlyRhymes();
    due(5, "person(-1, 0)", x.person(-1, 0), -2);
    due(5, "person(6, 0)", x.person(6, 0), -2);
    due(5, "person(0, -1)", x.person(0, -1), -2);
    due(5, "person(0, 8)", x.person(0, 8), -2);
    for (int p = 0; p < 5; p++) due(5, "person(5, 7)", x.person(5, 7), p);
    due(5, "a 6th", x.person(0, 0), -4);
    due(5, "a 6th that is BAD", x.person(0, 8), -2);
    due(5, "count(1)", x.count(1), 5);
    refused(5, x, 5, 0, 1);
    OnlyRhymes y = five();
    y.person(0, 0);
    y.ask(0, 0, 1);
    y.person(0, 0);
    due(5, "a person leaves the undo", y.undo(), 0);
  }

  private static void type() {
    OnlyRhymes x = new OnlyRhymes();
    due(6, "type(-1)", x.type(-1), -2);
    due(6, "type(128)", x.type(128), -2);
    for (int i = 1; i <= 150; i++) due(6, "type", x.type(i == 1 ? 0 : 127), i);
    due(6, "a 151st", x.type(32), -4);
    due(6, "a 151st that is BAD", x.type(128), -2);
    due(6, "count(6)", x.count(6), 150);
    refused(6, x, 3, 0, 1);
  }

  private static void clear() {
    OnlyRhymes x = told("tongue;");
    due(7, "clear()", x.clear(), 7);
    due(7, "clear()", x.clear(), 0);
    due(7, "count(6)", x.count(6), 0);
    due(7, "type", x.type(';'), 1);
  }

  private static void faultAt(String text, int place) {
    OnlyRhymes x = peopled();
    x.ask(0, 0, 1);
    x.hear(1, -1);
    tell(x, text);
    long digest = x.digest();
    due(8, "read() of '" + text + "'", x.read(), -10 - place);
    due(8, "all stays after '" + text + "'", x.digest(), digest);
    refused(8, x, 0, 0, 0);
  }

  private static void itemsIn(String text, int items) {
    due(8, "read() of '" + text + "'", told(text).read(), items);
  }

  private static void read() {
    itemsIn("tongue;", 1);
    itemsIn("  tongue ; ", 1);
    itemsIn("tongue;word 7 07 20;alike 0 7;alike 7 0;person 5 7;", 5);
    itemsIn("tongue;word0 0 0;person5 0;", 3);
    faultAt("", 0);
    faultAt("   ", 3);
    faultAt("tongue", 6);
    faultAt("tongue  ", 8);
    faultAt("tongues;", 0);
    faultAt("tong;", 0);
    faultAt("longue;", 0);
    faultAt("tongua;", 0);
    faultAt("tongue;bord 0 0 0;", 7);
    faultAt("; tongue;", 0);
    faultAt("word 0 0 0;tongue;", 0);
    faultAt("tongue;tongue;", 7);
    faultAt("tongue 1;", 7);
    faultAt("tongue1;", 6);
    faultAt("tongue;;", 7);
    faultAt("tongue;7;", 7);
    faultAt("tongue;wor", 7);
    faultAt("tongue; Word 0 0 0;", 8);
    faultAt("tongue;\tword 0 0 0;", 7);
    faultAt("tongue;word", 11);
    faultAt("tongue;word 0", 13);
    faultAt("tongue;word 0 0 0", 17);
    faultAt("tongue;word 8 0 0;", 12);
    faultAt("tongue;word 0 8 0;", 14);
    faultAt("tongue;word 0 0 21;", 16);
    faultAt("tongue;word 0 0 100;", 16);
    faultAt("tongue;word 000 0 0;", 12);
    faultAt("tongue;word 0 0 0 0;", 18);
    faultAt("tongue;word 0 0;", 15);
    faultAt("tongue;word 0 0 x;", 16);
    faultAt("tongue;word 0 0 -1;", 16);
    faultAt("tongue;alike 3 3;", 15);
    faultAt("tongue;alike 3 03;", 15);
    faultAt("tongue;alike 8 3;", 13);
    faultAt("tongue;alike 3 8;", 15);
    faultAt("tongue;alike 3;", 14);
    faultAt("tongue;person 6 0;", 14);
    faultAt("tongue;person 0 8;", 16);
    faultAt("tongue;person 0 0", 17);
    faultAt("tongue;" + "word 0 0 0;".repeat(10) + "word 0 0 0;", 117);
    faultAt("tongue;" + "person 0 0;".repeat(5) + " person 0 0;", 63);
    itemsIn("tongue;" + "word 0 0 0;".repeat(10), 11);
    itemsIn("tongue;" + "person 0 0;".repeat(5), 6);
    itemsIn("tongue;" + " ".repeat(143), 1);
    faultAt("tongue;" + " ".repeat(139) + "word", 150);
    faultAt("tongue;" + " ".repeat(133) + "word 0 0 1", 150);
    OnlyRhymes x = told("tongues; ");
    tell(x, "tongue");
    due(8, "what was cleared is not read", x.read(), -16);
    tell(x, "tongue;word 0 0 1234;");
    tell(x, "tongue;word 0 0 1");
    due(8, "what was cleared is not read", x.read(), -27);
    readTakesThePlace();
  }

  private static void readTakesThePlace() {
    OnlyRhymes x = peopled();
    x.ask(0, 0, 1);
    x.hear(1, -1);
    x.image(1);
    x.misheard(1, 3, 0, 3);
    x.word(9, 9, 9);
    tell(x, "tongue;word 3 4 15;alike 6 2;person 2 4;");
    due(8, "read()", x.read(), 4);
    int[] counts = {1, 1, 1, 0, 0, 0, 40};
    for (int what = 0; what < 7; what++) due(8, "count(" + what + ")", x.count(what), counts[what]);
    due(8, "its ending", x.of(0, 0), 3);
    due(8, "its meaning", x.of(0, 1), 4);
    due(8, "its cost", x.of(0, 2), 15);
    due(8, "alike(2, 6, 1)", x.alike(2, 6, 1), 1);
    due(8, "alike(0, 1, 0)", x.alike(0, 1, 0), 0);
    due(8, "his kind", x.about(0, 0), 2);
    due(8, "his want", x.about(0, 1), 4);
    due(8, "the fraction stays", x.part(1), 10);
    due(8, "undo()", x.undo(), -3);
    refused(8, x, 1, 1, 0);
    due(8, "read() again", x.read(), 4);
    x.allow(0, 255, -1);
    tell(x, "tongue;word 0 0 0;word 0 0 0;alike 0 1;person 0 0;x");
    due(8, "a fault at last", x.read(), -10 - 50);
    tell(x, "tongue;");
    due(8, "what a fault left behind is not read", x.read(), 1);
    for (int what = 0; what < 6; what++) due(8, "count(" + what + ")", x.count(what), 0);
    due(8, "the image stays", x.from(1), 1);
    due(8, "count(0)", x.count(0), 5);
    due(8, "count(5)", x.count(5), 1);
  }

  private static void ask() {
    OnlyRhymes x = peopled();
    due(9, "ask(0, 0, 1)", x.ask(0, 0, 1), 1);
    due(9, "of(1, 3)", x.of(1, 3), 1);
    due(9, "said already", x.ask(0, 0, 1), -3);
    due(9, "does not chime", x.ask(0, 0, 2), -3);
    due(9, "a rhymer does not echo", x.ask(0, 0, 0), -3);
    due(9, "an echo does", x.ask(2, 0, 0), 0);
    due(9, "a half one", x.ask(1, 0, 2), 2);
    due(9, "a word that is said may be asked", x.ask(1, 0, 3), 0);
    due(9, "ask(5, 0, 1)", x.ask(5, 0, 1), -2);
    due(9, "ask(-1, 0, 1)", x.ask(-1, 0, 1), -2);
    due(9, "ask(0, 5, 1)", x.ask(0, 5, 1), -2);
    due(9, "ask(0, -1, 1)", x.ask(0, -1, 1), -2);
    due(9, "ask(0, 0, 5)", x.ask(0, 0, 5), -2);
    due(9, "ask(0, 0, -1)", x.ask(0, 0, -1), -2);
    due(9, "count(3)", x.count(3), 4);
    due(9, "count(5)", x.count(5), 4);
    refused(9, x, 6, 3, 0);
  }

  private static void rest() {
    OnlyRhymes x = peopled();
    due(10, "rest()", x.rest(), 0);
    x.ask(0, 0, 1);
    x.ask(0, 1, 0);
    x.undo();
    x.ask(0, 2, 3);
    due(10, "rest()", x.rest(), 2);
    due(10, "count(3)", x.count(3), 0);
    due(10, "nothing to undo", x.undo(), -3);
    due(10, "it may be said again", x.ask(0, 0, 1), 1);
  }

  private static void undo() {
    OnlyRhymes x = new OnlyRhymes();
    for (int w = 0; w < 10; w++) x.word(0, 0, 0);
    x.person(2, 0);
    due(11, "undo()", x.undo(), -3);
    for (int w = 0; w < 10; w++) x.ask(0, 0, w);
    due(11, "count(5)", x.count(5), 8);
    for (int said = 9; said >= 2; said--) due(11, "undo()", x.undo(), said);
    due(11, "a 9th", x.undo(), -3);
    due(11, "the first two stay", x.answers(0, 0, 1), 1020);
    due(11, "ask", x.ask(0, 0, 9), 0);
    due(11, "undo()", x.undo(), 2);
    due(11, "of(9, 3)", x.of(9, 3), 0);
    refused(11, x, 0, 2, 0);
  }

  private static void of() {
    OnlyRhymes x = peopled();
    x.ask(0, 0, 1);
    int[] first = {0, 0, 3, 0};
    int[] second = {0, 1, 5, 1};
    int[] last = {2, 3, 1, 0};
    for (int what = 0; what < 4; what++) {
      due(12, "of(0, " + what + ")", x.of(0, what), first[what]);
      due(12, "of(1, " + what + ")", x.of(1, what), second[what]);
      due(12, "of(4, " + what + ")", x.of(4, what), last[what]);
    }
    due(12, "of(5, 0)", x.of(5, 0), -2);
    due(12, "of(-1, 0)", x.of(-1, 0), -2);
    due(12, "of(0, 4)", x.of(0, 4), -2);
    due(12, "of(0, -1)", x.of(0, -1), -2);
    refused(12, x, 4, 0, 0);
  }

  private static void about() {
    OnlyRhymes x = new OnlyRhymes();
    x.person(5, 6);
    x.person(3, 7);
    due(13, "about(0, 0)", x.about(0, 0), 5);
    due(13, "about(0, 1)", x.about(0, 1), 6);
    due(13, "about(1, 0)", x.about(1, 0), 3);
    due(13, "about(1, 1)", x.about(1, 1), 7);
    due(13, "about(2, 0)", x.about(2, 0), -2);
    due(13, "about(-1, 0)", x.about(-1, 0), -2);
    due(13, "about(0, 2)", x.about(0, 2), -2);
    due(13, "about(0, -1)", x.about(0, -1), -2);
    refused(13, x, 4, 0, 0);
  }

  private static void answers() {
    OnlyRhymes x = peopled();
    // each row: what chimes with words 0 .. 4, for the kinds 0 .. 4
    int[][] rows = {
        {2, 1, 8, 4, 0}, {14, 13, 11, 7, 0}, {3, 3, 12, 12, 16}, {3, 2, 12, 8, 16}, {6, 13, 11, 6, 0}};
    for (int p = 0; p < 5; p++)
      for (int w = 0; w < 5; w++) due(14, "answers(" + p + ", " + w + ", 0)", x.answers(p, w, 0), rows[p][w]);
    OnlyRhymes card = five();
    card.person(5, 3);
    int[] row = {30, 29, 27, 23, 16};
    for (int w = 0; w < 5; w++) due(14, "of a card answers(0, " + w + ", 0)", card.answers(0, w, 0), row[w]);
    x.ask(1, 2, 1);
    due(14, "answers(1, 0, 0)", x.answers(1, 0, 0), 14);
    due(14, "answers(1, 0, 1)", x.answers(1, 0, 1), 12);
    due(14, "answers(1, 0, 2)", x.answers(1, 0, 2), 5);
    due(14, "answers(0, 0, 2)", x.answers(0, 0, 2), 0);
    due(14, "answers(5, 0, 0)", x.answers(5, 0, 0), -2);
    due(14, "answers(-1, 0, 0)", x.answers(-1, 0, 0), -2);
    due(14, "answers(0, 5, 0)", x.answers(0, 5, 0), -2);
    due(14, "answers(0, -1, 0)", x.answers(0, -1, 0), -2);
    due(14, "answers(0, 0, 3)", x.answers(0, 0, 3), -2);
    due(14, "answers(0, 0, -1)", x.answers(0, 0, -1), -2);
    refused(14, x, 6, 0, 0);
  }

  private static void asks() {
    OnlyRhymes x = peopled();
    due(15, "asks(0, 0)", x.asks(0, 0), 6);
    due(15, "asks(1, 0)", x.asks(1, 0), 15);
    due(15, "asks(2, 3)", x.asks(2, 3), 16);
    due(15, "asks(0, 7)", x.asks(0, 7), 0);
    x.ask(0, 1, 0);
    due(15, "asks(0, 0), 0 being said", x.asks(0, 0), 4);
    due(15, "asks(5, 0)", x.asks(5, 0), -2);
    due(15, "asks(-1, 0)", x.asks(-1, 0), -2);
    due(15, "asks(0, 8)", x.asks(0, 8), -2);
    due(15, "asks(0, -1)", x.asks(0, -1), -2);
    refused(15, x, 4, 0, 0);
  }

  private static void fewest() {
    OnlyRhymes x = peopled();
    due(16, "fewest(0, 0)", x.fewest(0, 0), 0);
    due(16, "fewest(0, 1)", x.fewest(0, 1), 2);
    due(16, "fewest(0, 7)", x.fewest(0, 7), 11);
    due(16, "fewest(1, 7)", x.fewest(1, 7), 1);
    due(16, "fewest(2, 15)", x.fewest(2, 15), 21);
    due(16, "fewest(0, 8)", x.fewest(0, 8), -1);
    due(16, "fewest(0, 255)", x.fewest(0, 255), -1);
    x.ask(1, 0, 1);
    due(16, "fewest(1, 7), 1 being said", x.fewest(1, 7), -1);
    due(16, "fewest(1, 5), 1 being said", x.fewest(1, 5), 1);
    OnlyRhymes y = ten();
    due(16, "fewest of ten", y.fewest(1, 255), 1);
    y.tongue();
    y.word(0, 0, 0);
    y.person(0, 0);
    due(16, "words that were are no more", y.fewest(0, 2), -1);
    OnlyRhymes z = peopled();
    due(16, "what is cheapest", z.errand(1, 1), 4);
    due(16, "costs are none of it", z.fewest(2, 1), 1);
    due(16, "fewest(5, 0)", x.fewest(5, 0), -2);
    due(16, "fewest(-1, 0)", x.fewest(-1, 0), -2);
    due(16, "fewest(0, 256)", x.fewest(0, 256), -2);
    due(16, "fewest(0, -1)", x.fewest(0, -1), -2);
    refused(16, x, 4, 0, 0);
  }

  private static void errand() {
    OnlyRhymes x = five();
    due(17, "nothing, of nobody", x.errand(0, 1), 0);
    due(17, "nobody", x.errand(1, 0), -1);
    x.person(0, 0);
    x.person(2, 0);
    due(17, "errand(0, 0)", x.errand(0, 0), 0);
    due(17, "errand(1, 0)", x.errand(1, 0), 2);
    due(17, "errand(1, 1)", x.errand(1, 1), 4);
    due(17, "by both, errand(15, 0)", x.errand(15, 0), 6);
    due(17, "by both, errand(15, 1)", x.errand(15, 1), 21);
    due(17, "errand(16, 0)", x.errand(16, 0), -1);
    due(17, "errand(16, 1)", x.errand(16, 1), -1);
    x.ask(1, 0, 1);
    due(17, "1 being said, errand(2, 1)", x.errand(2, 1), -1);
    due(17, "errand(-1, 0)", x.errand(-1, 0), -10);
    due(17, "errand(256, 0)", x.errand(256, 0), -10);
    due(17, "errand(0, 2)", x.errand(0, 2), -10);
    due(17, "errand(0, -1)", x.errand(0, -1), -10);
    refused(17, x, 4, 0, 0);
    OnlyRhymes each = five();
    each.person(1, 0);
    each.person(0, 0);
    due(17, "what the first can say counts too", each.errand(7, 1), 1);
    due(17, "how much", each.errand(7, 0), 3);
    each.person(2, 0);
    due(17, "somebody asked one of them", each.errand(7, 1), 4);
    due(17, "of ten", ten().errand(255, 1), 1);
    OnlyRhymes free = new OnlyRhymes();
    for (int w = 0; w < 3; w++) free.word(w, 0, 0);
    free.person(2, 0);
    due(17, "of like ones the least bits", free.errand(1, 1), 1);
    due(17, "how much", free.errand(1, 0), 0);
  }

  private static void hear() {
    OnlyRhymes x = five();
    due(18, "hear(5, 0)", x.hear(5, 0), -2);
    due(18, "hear(-1, 0)", x.hear(-1, 0), -2);
    due(18, "hear(0, 5)", x.hear(0, 5), -2);
    due(18, "hear(0, -2)", x.hear(0, -2), -2);
    due(18, "hear(0, -1)", x.hear(0, -1), 1);
    for (int n = 2; n <= 6; n++) due(18, "hear(4, 4)", x.hear(4, 4), n);
    due(18, "a 7th", x.hear(4, 4), -4);
    due(18, "a 7th that is BAD", x.hear(5, 4), -2);
    due(18, "count(4)", x.count(4), 6);
    refused(18, x, 5, 0, 1);
  }

  private static void forget() {
    OnlyRhymes x = five();
    due(19, "forget()", x.forget(), 0);
    x.hear(0, 1);
    x.hear(0, -1);
    due(19, "forget()", x.forget(), 2);
    due(19, "count(4)", x.count(4), 0);
    due(19, "wants(0)", x.wants(0), 255);
  }

  private static void wants() {
    OnlyRhymes x = peopled();
    for (int kind = 0; kind < 6; kind++) due(20, "wants(" + kind + ")", x.wants(kind), 255);
    x.ask(0, 0, 1);
    // asked word 0, a half one has 1 (meaning 1), 2 (meaning 2), 3 (meaning 0), nothing being said
    x.hear(0, 2);
    due(20, "wants(1)", x.wants(1), 4);
    due(20, "wants(0)", x.wants(0), 0);
    x.forget();
    x.hear(0, 1);
    due(20, "wants(1), the first else", x.wants(1), 250);
    due(20, "wants(4), a poet", x.wants(4), 251);
    due(20, "wants(5), a card", x.wants(5), 242);
    x.forget();
    x.hear(4, -1);
    due(20, "wants(0), silent", x.wants(0), 255);
    due(20, "wants(2), who is not", x.wants(2), 0);
    due(20, "wants(5), by his want", x.wants(5), 240);
    x.hear(4, 4);
    due(20, "wants(0), both", x.wants(0), 0);
    due(20, "wants(-1)", x.wants(-1), -2);
    due(20, "wants(6)", x.wants(6), -2);
    refused(20, x, 2, 0, 0);
  }

  private static void next() {
    OnlyRhymes none = new OnlyRhymes();
    due(21, "no words, next(0, 0)", none.next(0, 0), -1);
    due(21, "no words, next(0, 1)", none.next(0, 1), 0);
    OnlyRhymes x = five();
    // a half one: to 0 by 1 6 meanings, to 1 by 0 7, to 2 by 0 7, to 3 by 0 6
    due(21, "next(1, 0)", x.next(1, 0), 0);
    due(21, "next(1, 1)", x.next(1, 1), 6);
    // a card has a word of each of the meanings 0 .. 3 for any word; asked 4 he is silent for 4 .. 7
    due(21, "next(5, 0)", x.next(5, 0), 4);
    due(21, "next(5, 1)", x.next(5, 1), 4);
    due(21, "a rhymer next(0, 0)", x.next(0, 0), 0);
    due(21, "a rhymer next(0, 1)", x.next(0, 1), 8);
    OnlyRhymes y = ten();
    due(21, "of ten, an echo", y.next(2, 1), 1);
    due(21, "of ten, a slow one", y.next(3, 0), 0);
    y.tongue();
    for (int w = 0; w < 8; w++) y.word(w, 0, 0);
    y.word(3, 1, 0);
    y.word(3, 2, 0);
    due(21, "to the tenth the last can be answered", y.next(2, 0), 3);
    due(21, "how many", y.next(2, 1), 6);
    x.hear(0, 2);
    due(21, "one is left, next(1, 0)", x.next(1, 0), 0);
    due(21, "one is left, next(1, 1)", x.next(1, 1), 1);
    due(21, "none is left, next(0, 0)", x.next(0, 0), -1);
    due(21, "none is left, next(0, 1)", x.next(0, 1), 0);
    due(21, "next(-1, 0)", x.next(-1, 0), -2);
    due(21, "next(6, 0)", x.next(6, 0), -2);
    due(21, "next(0, -1)", x.next(0, -1), -2);
    due(21, "next(0, 2)", x.next(0, 2), -2);
    refused(21, x, 4, 0, 0);
  }

  private static void two() {
    OnlyRhymes x = peopled();
    // 0 a rhymer, 2 an echo: asked 4 the rhymer has nothing; the echo says 4, then the rhymer has nothing
    due(22, "two(0, 2, 4, 0)", x.two(0, 2, 4, 0), 0);
    due(22, "two(0, 2, 4, 1)", x.two(0, 2, 4, 1), 0);
    due(22, "two(0, 2, 4, 2)", x.two(0, 2, 4, 2), 0);
    due(22, "two(2, 0, 4, 0)", x.two(2, 0, 4, 0), 1);
    due(22, "two(2, 0, 4, 1)", x.two(2, 0, 4, 1), 1);
    // asked 0 the rhymer says 1, the echo 0 (no more: the rhymer has but 1)
    due(22, "two(0, 2, 0, 0)", x.two(0, 2, 0, 0), 0);
    due(22, "two(0, 2, 0, 1)", x.two(0, 2, 0, 1), 2);
    due(22, "two(0, 2, 0, 2)", x.two(0, 2, 0, 2), 2);
    // asked 0 the slow one says 0, the rhymer 1, or he says 1, the rhymer 0, he has 1 no more: two each way
    due(22, "two(3, 0, 0, 0)", x.two(3, 0, 0, 0), 0);
    due(22, "two(3, 0, 0, 1)", x.two(3, 0, 0, 1), 2);
    x.ask(2, 0, 1);
    due(22, "1 being said, two(3, 0, 0, 0)", x.two(3, 0, 0, 0), 1);
    due(22, "1 being said, two(3, 0, 0, 1)", x.two(3, 0, 0, 1), 1);
    due(22, "1 being said, two(0, 3, 0, 1)", x.two(0, 3, 0, 1), 0);
    due(22, "two(0, 0, 0, 0)", x.two(0, 0, 0, 0), -2);
    due(22, "two(5, 0, 0, 0)", x.two(5, 0, 0, 0), -2);
    due(22, "two(0, 5, 0, 0)", x.two(0, 5, 0, 0), -2);
    due(22, "two(-1, 0, 0, 0)", x.two(-1, 0, 0, 0), -2);
    due(22, "two(0, -1, 0, 0)", x.two(0, -1, 0, 0), -2);
    due(22, "two(0, 1, 5, 0)", x.two(0, 1, 5, 0), -2);
    due(22, "two(0, 1, -1, 0)", x.two(0, 1, -1, 0), -2);
    due(22, "two(0, 1, 0, 3)", x.two(0, 1, 0, 3), -2);
    due(22, "two(0, 1, 0, -1)", x.two(0, 1, 0, -1), -2);
    refused(22, x, 9, 0, 0);
    // slow ones: the first can say the last word at once, or leave all five to be said
    OnlyRhymes slow = new OnlyRhymes();
    for (int w = 0; w < 5; w++) slow.word(3, w, 0);
    slow.person(3, 0);
    slow.person(3, 0);
    due(22, "slow ones, LONGEST", slow.two(0, 1, 0, 1), 5);
    due(22, "slow ones, SHORTEST", slow.two(0, 1, 0, 2), 1);
    due(22, "slow ones, who falls silent", slow.two(0, 1, 0, 0), 1);
    due(22, "nothing is said by it", slow.count(3), 0);
    OnlyRhymes y = ten();
    due(22, "of ten, all ten", y.two(0, 1, 9, 1), 10);
    due(22, "of ten, at least", y.two(0, 1, 9, 2), 10);
    due(22, "of ten, who falls silent", y.two(0, 1, 9, 0), 0);
    due(22, "of ten, but a rhymer first", y.two(1, 0, 9, 1), 10);
    y.ask(0, 0, 0);
    due(22, "of nine", y.two(0, 1, 9, 1), 9);
    due(22, "of nine, who falls silent", y.two(0, 1, 9, 0), 1);
    // a slow one may leap ahead; what both leave behind can be answered only by the rhymer
    OnlyRhymes leap = new OnlyRhymes();
    for (int w = 0; w < 4; w++) leap.word(0, 0, 0);
    leap.person(3, 0);
    leap.person(0, 0);
    due(22, "slow and rhymer, LONGEST", leap.two(0, 1, 0, 1), 4);
    due(22, "slow and rhymer, SHORTEST", leap.two(0, 1, 1, 2), 2);
    due(22, "slow and rhymer, who falls silent", leap.two(0, 1, 0, 0), 0);
    due(22, "rhymer and slow, LONGEST", leap.two(1, 0, 0, 1), 4);
    due(22, "rhymer and slow, SHORTEST", leap.two(1, 0, 0, 2), 1);
    // half ones: asked 2 the first may say 3 (then 0, 1 or 1, 0 is left to be said), 0 or 1
    OnlyRhymes half = five();
    half.person(1, 0);
    half.person(0, 0);
    due(22, "half and rhymer, LONGEST", half.two(0, 1, 2, 1), 4);
    due(22, "half and rhymer, SHORTEST", half.two(0, 1, 2, 2), 4);
    due(22, "rhymer and half, LONGEST", half.two(1, 0, 2, 1), 4);
    due(22, "rhymer and half, SHORTEST", half.two(1, 0, 2, 2), 2);
    due(22, "rhymer and half, who falls silent", half.two(1, 0, 2, 0), 0);
  }

  private static void will() {
    OnlyRhymes x = five();
    due(23, "will(0, 0)", x.will(0, 0), 21);
    due(23, "will(1, 0)", x.will(1, 0), 17);
    due(23, "will(2, 0), echoes of themselves are none", x.will(2, 0), 21);
    due(23, "will(3, 0)", x.will(3, 0), 21);
    due(23, "will(4, 0), a poet's 0 and 3 are of one meaning", x.will(4, 0), 25);
    due(23, "will(5, 3), all chime with 4", x.will(5, 3), 1);
    due(23, "will(5, 7), no word is his", x.will(5, 7), 17);
    due(23, "of ten all chime", ten().will(3, 0), 1);
    OnlyRhymes apart = new OnlyRhymes();
    for (int w = 0; w < 8; w++) apart.word(w, w, 0);
    apart.word(0, 0, 0);
    apart.word(0, 0, 0);
    due(23, "all but the first ones that chime", apart.will(0, 0), 255);
    due(23, "a poet's are all apart", apart.will(4, 0), 1023);
    x.person(2, 0);
    x.ask(0, 4, 4);
    due(23, "said or not", x.will(0, 0), 21);
    due(23, "will(-1, 0)", x.will(-1, 0), -2);
    due(23, "will(6, 0)", x.will(6, 0), -2);
    due(23, "will(0, -1)", x.will(0, -1), -2);
    due(23, "will(0, 8)", x.will(0, 8), -2);
    refused(23, x, 4, 0, 0);
    due(23, "no words", new OnlyRhymes().will(5, 7), 0);
  }

  private static void worst() {
    OnlyRhymes x = peopled();
    due(24, "worst(0)", x.worst(0), 4);
    due(24, "worst(1)", x.worst(1), 4);
    due(24, "worst(2), of like ones", x.worst(2), 4);
    due(24, "worst(3), the first", x.worst(3), 1);
    x.ask(0, 0, 1);
    due(24, "worst(0), 1 being said", x.worst(0), 0);
    due(24, "worst(5)", x.worst(5), -2);
    due(24, "worst(-1)", x.worst(-1), -2);
    refused(24, x, 2, 0, 0);
    due(24, "all meanings to each", ten().worst(0), 0);
    due(24, "all but one to some", ten().worst(1), 2);
    OnlyRhymes none = new OnlyRhymes();
    none.person(0, 0);
    due(24, "no words", none.worst(0), -1);
    refused(24, none, 0, 0, 0);
  }

  private static void allow() {
    OnlyRhymes x = new OnlyRhymes();
    for (int w = 0; w < 5; w++) x.word(w + 2, w, 0);
    x.person(1, 0);
    x.person(0, 0);
    due(25, "nothing", x.allow(0, 0, -1), 0);
    due(25, "nothing, the 0th", x.allow(0, 0, 0), -5);
    due(25, "one meaning", x.allow(0, 1, -1), 1);
    due(25, "one meaning, the 0th", x.allow(0, 1, 0), 23);
    due(25, "one meaning, the 1st", x.allow(0, 1, 1), -5);
    due(25, "two of one pair", x.allow(0, 24, 0), 56);
    due(25, "four", x.allow(0, 15, -1), 2);
    due(25, "four, the 0th", x.allow(0, 15, 0), 23);
    due(25, "four, the 1st", x.allow(0, 15, 1), 45);
    due(25, "four, the 2nd", x.allow(0, 15, 2), -5);
    due(25, "four, far behind", x.allow(0, 15, Integer.MAX_VALUE), -5);
    due(25, "five", x.allow(0, 31, -1), -1);
    due(25, "five, the 0th", x.allow(0, 31, 0), -1);
    due(25, "five, the 9th", x.allow(0, 31, 9), -1);
    due(25, "a meaning of no word", x.allow(0, 128, -1), -1);
    due(25, "a rhymer", x.allow(1, 1, -1), -1);
    due(25, "it changes nothing", x.count(2), 0);
    OnlyRhymes y = new OnlyRhymes();
    for (int w = 0; w < 3; w++) y.word(w, w, 0);
    y.word(6, 6, 0);
    y.word(7, 7, 0);
    y.person(1, 0);
    due(25, "the first pair alone", y.allow(0, 3, -1), 1);
    due(25, "the first pair", y.allow(0, 3, 0), 1);
    due(25, "the last pair", y.allow(0, 192, 0), 67);
    due(25, "three, the 0th", y.allow(0, 7, 0), 1);
    due(25, "three, the 1st", y.allow(0, 7, 1), 2);
    due(25, "the first and the last, the 0th", y.allow(0, 195, 0), 1);
    due(25, "the first and the last, the 1st", y.allow(0, 195, 1), 67);
    x.alike(2, 3, 1);
    due(25, "one is alike", x.allow(0, 15, -1), 1);
    due(25, "one is alike, the 0th", x.allow(0, 15, 0), 45);
    x.ask(0, 0, 1);
    due(25, "1 being said", x.allow(0, 2, -1), -1);
    due(25, "allow(2, 0, -1)", x.allow(2, 0, -1), -10);
    due(25, "allow(-1, 0, -1)", x.allow(-1, 0, -1), -10);
    due(25, "allow(0, 256, -1)", x.allow(0, 256, -1), -10);
    due(25, "allow(0, -1, -1)", x.allow(0, -1, -1), -10);
    due(25, "allow(0, 0, -2)", x.allow(0, 0, -2), -10);
    refused(25, x, 5, 0, 0);
    due(25, "count(2)", x.count(2), 1);
  }

  private static void chance(OnlyRhymes x, int word, int c, int above, int below) {
    due(26, "misheard(0, " + word + ", 1, " + c + ")", x.misheard(0, word, 1, c), 1);
    due(26, "above", x.part(0), above);
    due(26, "below", x.part(1), below);
  }

  private static void misheard() {
    OnlyRhymes x = peopled();
    // the rhymer can say meaning 1 to word 0 alone
    chance(x, 0, 0, 1, 1);
    chance(x, 0, 10, 0, 1);
    chance(x, 0, 3, 7, 10);
    chance(x, 0, 5, 1, 2);
    chance(x, 0, 8, 1, 5);
    chance(x, 1, 10, 0, 1);
    chance(x, 4, 4, 2, 5);
    chance(x, 4, 0, 0, 1);
    due(26, "both", x.misheard(1, 2, 0, 7), 1);
    due(26, "both, above", x.part(0), 1);
    chance(x, 0, 9, 1, 10);
    due(26, "misheard(5, 0, 0, 0)", x.misheard(5, 0, 0, 0), -2);
    due(26, "misheard(-1, 0, 0, 0)", x.misheard(-1, 0, 0, 0), -2);
    due(26, "misheard(0, 5, 0, 0)", x.misheard(0, 5, 0, 0), -2);
    due(26, "misheard(0, -1, 0, 0)", x.misheard(0, -1, 0, 0), -2);
    due(26, "misheard(0, 0, 8, 0)", x.misheard(0, 0, 8, 0), -2);
    due(26, "misheard(0, 0, -1, 0)", x.misheard(0, 0, -1, 0), -2);
    due(26, "misheard(0, 0, 0, 11)", x.misheard(0, 0, 0, 11), -2);
    due(26, "misheard(0, 0, 0, -1)", x.misheard(0, 0, 0, -1), -2);
    due(26, "the fraction stays", x.part(1), 10);
    refused(26, x, 8, 0, 0);
    x.ask(0, 0, 1);
    chance(x, 0, 3, 0, 1);
    OnlyRhymes y = new OnlyRhymes();
    for (int w = 0; w < 8; w++) y.word(w, 0, 0);
    y.word(7, 0, 0);
    y.word(0, 1, 0);
    y.person(0, 0);
    chance(y, 9, 3, 3, 10);
    chance(y, 8, 10, 0, 1);
  }

  private static void talks() {
    OnlyRhymes x = new OnlyRhymes();
    due(27, "no words", x.talks(0, 0), -1);
    x.word(0, 0, 0);
    due(27, "nobody", x.talks(0, 9), -1);
    x.person(2, 0);
    // one word, one echo: he says it, then nothing, by turns
    due(27, "talks(7, 0)", x.talks(7, 0), 0);
    due(27, "talks(7, 1)", x.talks(7, 1), 1);
    due(27, "talks(7, 2)", x.talks(7, 2), 1);
    due(27, "talks(7, 59)", x.talks(7, 59), 30);
    due(27, "talks(999999, 60)", x.talks(999999, 60), 30);
    x.ask(0, 0, 0);
    due(27, "it being said", x.talks(7, 59), 29);
    due(27, "nothing is said by it", x.count(3), 1);
    due(27, "talks(-1, 0)", x.talks(-1, 0), -2);
    due(27, "talks(1000000, 0)", x.talks(1000000, 0), -2);
    due(27, "talks(0, -1)", x.talks(0, -1), -2);
    due(27, "talks(0, 61)", x.talks(0, 61), -2);
    refused(27, x, 4, 0, 0);
    talksByLots();
    due(27, "ten words, then nothing, by an echo and a rhymer", ten().talks(1, 10), 10);
    due(27, "ten and one", ten().talks(1, 11), 10);
    due(27, "ten and two", ten().talks(1, 12), 11);
    due(27, "no words, but BAD", new OnlyRhymes().talks(0, 61), -2);
  }

  /** With ten words of unlike endings but the last two, and a rhymer, only words 8 and 9 are answered. */
  private static void talksByLots() {
    OnlyRhymes x = new OnlyRhymes();
    for (int e = 0; e < 8; e++) x.word(e, 0, 0);
    x.word(7, 1, 0);
    x.person(0, 1);
    long lot = 5;
    int answers = 0;
    boolean[] said = new boolean[9];
    for (int i = 0; i < 60; i++) {
      lot = (lot * 1103515245L + 12345) % (1L << 31);
      int w = (int) (lot / 65536 % 9);
      int answer = w == 7 ? 8 : w == 8 ? 7 : -1;
      if (answer >= 0 && !said[answer]) {
        said[answer] = true;
        answers++;
      } else {
        said = new boolean[9];
      }
    }
    due(27, "by lots", x.talks(5, 60), answers);
  }

  private static void part() {
    OnlyRhymes x = peopled();
    due(28, "part(0)", x.part(0), 0);
    due(28, "part(1)", x.part(1), 1);
    x.misheard(0, 0, 1, 4);
    due(28, "part(0)", x.part(0), 3);
    due(28, "part(1)", x.part(1), 5);
    due(28, "part(2)", x.part(2), -2);
    due(28, "part(-1)", x.part(-1), -2);
    refused(28, x, 2, 0, 0);
  }

  private static void image() {
    OnlyRhymes x = peopled();
    due(29, "image(2)", x.image(2), -2);
    due(29, "image(-1)", x.image(-1), -2);
    due(29, "image(1)", x.image(1), 1);
    x.ask(0, 0, 1);
    due(29, "image(0)", x.image(0), 1);
    x.from(1);
    due(29, "an image is not what came later", x.count(3), 0);
    x.from(0);
    due(29, "the other", x.count(3), 1);
    x.rest();
    due(29, "image(0) again", x.image(0), 1);
    x.ask(0, 0, 1);
    x.from(0);
    due(29, "it is the later one", x.count(3), 0);
    refused(29, x, 2, 0, 0);
  }

  private static void from() {
    OnlyRhymes x = peopled();
    due(30, "from(0)", x.from(0), -3);
    due(30, "from(2)", x.from(2), -2);
    due(30, "from(-1)", x.from(-1), -2);
    x.ask(0, 0, 1);
    x.ask(0, 1, 0);
    x.undo();
    x.hear(2, -1);
    x.type('a');
    x.image(1);
    long digest = x.digest();
    x.tongue();
    x.clear();
    x.word(1, 1, 1);
    x.person(1, 1);
    x.misheard(0, 0, 0, 5);
    due(30, "from(0), another was kept", x.from(0), -3);
    due(30, "from(1)", x.from(1), 1);
    due(30, "the text stays", x.count(6), 0);
    x.type('b');
    due(30, "all is as it was", x.digest(), digest);
    due(30, "what may be undone it keeps", x.undo(), 0);
    due(30, "no more", x.undo(), -3);
    x.forget();
    x.hear(4, 4);
    x.rest();
    x.ask(0, 2, 3);
    x.ask(0, 1, 0);
    due(30, "from(1) again", x.from(1), 1);
    due(30, "all is as it was", x.digest(), digest);
    due(30, "undo() again", x.undo(), 0);
    due(30, "no more", x.undo(), -3);
    refused(30, x, 2, 4, 0);
    OnlyRhymes y = ten();
    for (int w = 0; w < 4; w++) y.ask(0, 0, w);
    y.image(0);
    y.rest();
    for (int w = 9; w > 3; w--) y.ask(0, 0, w);
    y.from(0);
    due(30, "undo()", y.undo(), 3);
    due(30, "the words that are said then", y.answers(0, 0, 1), 1016);
  }

  private static void status() {
    OnlyRhymes x = new OnlyRhymes();
    refused(31, x, 0, 0, 0);
    due(31, "status(3)", x.status(3), -1);
    due(31, "status(-1)", x.status(-1), -1);
    refused(31, x, 2, 0, 0);
    x.undo();
    x.from(0);
    x.errand(256, 0);
    x.allow(0, 0, 0);
    x.part(9);
    for (int i = 0; i < 12; i++) x.word(0, 0, 0);
    x.read();
    x.errand(1, 0);
    x.tongue();
    x.talks(0, 0);
    refused(31, x, 5, 2, 2);
  }

  private static void count() {
    OnlyRhymes x = peopled();
    x.alike(5, 6, 1);
    x.ask(0, 0, 1);
    x.ask(0, 1, 0);
    x.ask(0, 2, 3);
    x.undo();
    x.hear(0, 0);
    tell(x, "tongue");
    int[] counts = {5, 5, 2, 2, 1, 2, 6};
    for (int what = 0; what < 7; what++) due(32, "count(" + what + ")", x.count(what), counts[what]);
    due(32, "count(7)", x.count(7), -2);
    due(32, "count(-1)", x.count(-1), -2);
    refused(32, x, 2, 0, 0);
  }

  private static long hash(long... values) {
    long h = 929;
    for (long v : values) h = 31 * h + v;
    return h;
  }

  private static void digest() {
    long[] first = new long[7 + 28 + 2];
    first[36] = 1;
    due(33, "of a new one", new OnlyRhymes().digest(), hash(first));
    OnlyRhymes x = new OnlyRhymes();
    x.word(1, 2, 3);
    x.word(1, 4, 20);
    x.alike(0, 2, 1);
    x.alike(7, 6, 1);
    x.person(1, 5);
    x.ask(0, 0, 1);
    x.hear(1, -1);
    x.hear(0, 1);
    x.type('x');
    x.misheard(0, 1, 2, 3);
    long[] all = {2, 1, 2, 1, 2, 1, 1, 1, 2, 3, 0, 1, 4, 20, 1,
        0, 1, 0, 0, 0, 0, 0, 0, 0, 0, 0, 0, 0, 0, 0, 0, 0, 0, 0, 0, 0, 0, 0, 0, 0, 0, 0, 1,
        1, 5, 1, -1, 0, 1, 7, 10};
    due(33, "digest()", x.digest(), hash(all));
    long before = x.digest();
    x.word(8, 0, 0);
    due(33, "refused calls leave it", x.digest(), before);
  }

  public static void main(String[] args) {
    newObject();
    tongue();
    word();
    alike();
    person();
    type();
    clear();
    read();
    ask();
    rest();
    undo();
    of();
    about();
    answers();
    asks();
    fewest();
    errand();
    hear();
    forget();
    wants();
    next();
    two();
    will();
    worst();
    allow();
    misheard();
    talks();
    part();
    image();
    from();
    status();
    count();
    digest();
    System.out.println(wrong == 0 ? "all promises are as due" : wrong + " answers are not as due");
    if (wrong != 0) System.exit(1);
  }
}
