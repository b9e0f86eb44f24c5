import java.math.BigInteger;
import java.util.ArrayList;
import java.util.List;

/** Promises 29 to 33, and what 'Terms' says of images, STATUS, refused calls and calls that change nothing. */
final class KeptEdges {
  private KeptEdges() {}

  // ---- promises 29 and 30

  @Sentence(of = 29, says = "An IMAGE is kept: 1.")
  static void anImageIsKept() {
    Run r = new Run().due("image(0)", 1).due("image(1)", 1).due("image(1)", 1).does("word(0, 0, 0)").due("image(1)", 1);
    // the later one takes the place of the one ahead of it, and the other stays
    r.does("word(1, 1, 1)").due("from(1)", 1).due("count(0)", 1).due("from(0)", 1).due("count(0)", 0);
  }

  @Sentence(of = 29, says = "BAD.")
  static void imageIsBad() {
    new Run().bad("image(-1)", "image(2)", "image(2147483647)", "image(-2147483648)").no("from(0)", "from(1)");
  }

  @Sentence(of = {29, 30}, says = "IMAGES 0, 1 keep all but them, THE TEXT, THE FRACTION and STATUS;")
  static void imagesKeepAllButThese() {
    Run r = Run.full().bad("type(128)");
    long digest = r.call("digest()");
    r.does("image(1)", "tongue()", "clear()", "word(3, 3, 3)", "word(4, 4, 4)", "person(2, 3)");
    for (int h = 0; h < 6; h++) r.does("hear(" + (h + 1) % 2 + ", 0)");
    r.does("misheard(0, 0, 3, 0)", "image(0)").no("undo()");
    r.due("from(1)", 1).due("count(0)", 10).due("count(1)", 5).due("count(2)", 28).due("count(3)", 10).due("count(4)", 6).due("count(5)", 8);
    r.due("count(6)", 0).due("part(0)", 1).due("part(1)", 1).due("status(0)", 1).due("status(1)", 1);
    // with its text and its fraction again it is all as it was
    r.does("rest()", "misheard(0, 0, 7, 0)", "from(1)").type("x".repeat(150)).due("part(0)", 0).due("digest()", digest);
    // the other image is not in it, nor changed by it
    r.due("from(0)", 1).due("count(0)", 2).due("of(0, 0)", 3).due("count(4)", 6).due("count(2)", 0);
  }

  @Sentence(of = {29, 30, 11}, says = "what may be undone they keep;")
  static void imagesKeepWhatMayBeUndone() {
    Run r = Run.echoing(10).does("image(0)");
    for (int w = 0; w < 9; w++) r.does("ask(0, 0, " + w + ")");
    r.does("image(1)").due("undo()", 8).due("undo()", 7).does("rest()", "ask(0, 0, 9)", "from(1)").due("count(5)", 8);
    for (int said = 8; said >= 1; said--) r.due("undo()", said).due("of(" + said + ", 3)", 0).due("of(" + (said - 1) + ", 3)", 1);
    r.no("undo()").due("of(9, 3)", 0).due("from(1)", 1).due("count(5)", 8).due("undo()", 8).due("from(0)", 1).due("count(5)", 0).no("undo()");
  }

  @Sentence(of = 30, says = {"It goes on from an IMAGE: 1.", "it goes on from one."})
  static void itGoesOnFromAnImage() {
    Run r = new Run().does("word(0, 0, 0)", "word(0, 1, 0)", "person(2, 0)", "image(0)");
    // what comes behind it does not come into the image
    for (int i = 0; i < 3; i++) {
      r.due("from(0)", 1).due("count(0)", 2).due("word(2, 2, 2)", 2).due("person(1, 1)", 1).does("ask(0, 0, 1)", "alike(0, 1, 1)", "hear(0, -1)");
    }
    r.due("from(0)", 1).due("count(0)", 2).due("count(1)", 1).due(0, "count(2)", "count(3)", "count(4)", "count(5)").due("of(1, 3)", 0);
    // an image of nothing is one, too
    new Run().does("image(1)", "word(0, 0, 0)").due("from(1)", 1).due("count(0)", 0).no("from(0)");
  }

  @Sentence(of = 30, says = "NO: none was kept.")
  static void fromIsNo() {
    Run r = new Run().no("from(0)", "from(1)").does("image(1)").no("from(0)").due("from(1)", 1).no("from(0)").does("image(0)").due("from(0)", 1);
    // images stay behind a tongue, read or not
    r.does("tongue()").due("from(0)", 1).type("tongue;").due("read()", 1).due("from(1)", 1);
  }

  @Sentence(of = 30, says = "BAD;")
  static void fromIsBadAheadOfNo() {
    new Run().bad("from(-1)", "from(2)", "from(2147483647)", "from(-2147483648)").due("status(1)", 0);
    new Run().does("image(0)", "image(1)").bad("from(-1)", "from(2)");
  }

  // ---- promise 31

  @Sentence(of = 31, says = {"STATUS: BAD (0), NO (1), FULL (2).", "STATUS: how many calls were refused as BAD, NO, FULL (each answer told so below is such a one)."})
  static void statusCountsEachReason() {
    Run r = new Run().due(0, "status(0)", "status(1)", "status(2)");
    r.bad("word(8, 0, 0)", "alike(0, 0, 0)", "person(6, 0)").no("undo()", "from(0)");
    for (int p = 0; p < 5; p++) r.does("person(0, 0)");
    r.full("person(0, 0)").due("status(0)", 3).due("status(1)", 2).due("status(2)", 1);
    // what is not told so is not refused: NONE, not so many, a FAULT, and a look at STATUS itself
    r.due("fewest(0, 1)", -1).due("errand(1, 0)", -1).due("worst(0)", -1).due("next(0, 0)", -1).due("allow(0, 1, -1)", -1);
    r.due("allow(0, 0, 0)", -5).due("talks(0, 0)", -1).due("read()", -10).due("status(0)", 3).due("status(1)", 2).due("status(2)", 1);
    // neither a tongue nor an image takes it away
    r.does("image(0)", "tongue()", "from(0)").due("status(0)", 3).due("status(1)", 2).due("status(2)", 1);
  }

  @Sentence(of = 31, says = "-1: another what (counts as BAD).")
  static void anotherWhatOfStatus() {
    Run r = new Run().badBy(-1, "status(3)", "status(-1)", "status(2147483647)", "status(-2147483648)");
    r.due("status(0)", 4).due("status(1)", 0).due("status(2)", 0);
  }

  // ---- promise 32

  @Sentence(of = 32, says = {
      "How many: 0 WORDS, 1 PEOPLE, 2 pairs that are ALIKE, 3 WORDS SAID, 4 HEARD, 5 that may be undone, 6 bytes of THE TEXT."})
  static void howManyThereAre() {
    Run none = new Run();
    for (int what = 0; what < 7; what++) none.due("count(" + what + ")", 0);
    int[] most = {10, 5, 28, 10, 6, 8, 150};
    Run full = Run.full();
    for (int what = 0; what < 7; what++) full.due("count(" + what + ")", most[what]);
    Run some = Run.five().does("person(0, 0)", "person(2, 0)", "alike(6, 7, 1)", "ask(0, 0, 1)", "ask(1, 4, 4)", "ask(1, 0, 0)", "undo()");
    some.does("hear(0, 0)").type("tongue;");
    int[] due = {5, 2, 2, 2, 1, 2, 7};
    for (int what = 0; what < 7; what++) some.due("count(" + what + ")", due[what]);
  }

  @Sentence(of = 32, says = "BAD.")
  static void countIsBad() {
    new Run().bad("count(-1)", "count(7)", "count(2147483647)", "count(-2147483648)");
  }

  // ---- promise 33

  /** The numbers of a digest, behind one another; long arithmetic wraps around, as the test does by hand. */
  private static long digestOf(List<Integer> numbers) {
    BigInteger h = BigInteger.valueOf(929);
    for (int v : numbers) h = h.multiply(BigInteger.valueOf(31)).add(BigInteger.valueOf(v));
    return h.longValue();
  }

  private static void add(List<Integer> numbers, int... more) {
    for (int v : more) numbers.add(v);
  }

  @Sentence(of = 33, says = "h = 929; then h = 31 h + v for each v: count(0) to count(6);")
  static void theDigestOfNothing() {
    List<Integer> numbers = new ArrayList<>();
    for (int i = 0; i < 7 + 28; i++) numbers.add(0);
    add(numbers, 0, 1);
    new Run().due("digest()", digestOf(numbers)).due("digest()", digestOf(numbers));
    numbers.set(6, 3);
    new Run().type("tex").due("digest()", digestOf(numbers));
  }

  @Sentence(of = 33, says = "of WORDS ENDING, MEANING, COST, SAID (1, 0);")
  static void theDigestOfWords() {
    List<Integer> numbers = new ArrayList<>();
    add(numbers, 2, 1, 0, 1, 0, 1, 0);
    add(numbers, 7, 6, 20, 0, 7, 5, 19, 1);
    for (int i = 0; i < 28; i++) numbers.add(0);
    add(numbers, 0, 4, 0, 1);
    new Run().does("word(7, 6, 20)", "word(7, 5, 19)", "person(0, 4)", "ask(0, 0, 1)").due("digest()", digestOf(numbers));
  }

  @Sentence(of = 33, says = "of ENDINGS a below b (by a, then b) whether ALIKE (1, 0);")
  static void theDigestOfPairs() {
    int place = 0;
    Run r = new Run();
    for (int a = 0; a < 8; a++) {
      for (int b = a + 1; b < 8; b++) {
        List<Integer> numbers = new ArrayList<>();
        add(numbers, 0, 0, 1, 0, 0, 0, 0);
        for (int i = 0; i < 28; i++) numbers.add(i == place ? 1 : 0);
        add(numbers, 0, 1);
        r.does("alike(" + b + ", " + a + ", 1)").due("digest()", digestOf(numbers)).does("alike(" + a + ", " + b + ", 0)");
        place++;
      }
    }
  }

  @Sentence(of = 33, says = "of PEOPLE KIND, WANT;")
  static void theDigestOfPeople() {
    List<Integer> numbers = new ArrayList<>();
    add(numbers, 0, 2, 0, 0, 0, 0, 0);
    for (int i = 0; i < 28; i++) numbers.add(0);
    add(numbers, 5, 6, 4, 7, 0, 1);
    new Run().does("person(5, 6)", "person(4, 7)").due("digest()", digestOf(numbers));
  }

  @Sentence(of = 33, says = "of what was HEARD the WORD, the answer (NONE: -1);")
  static void theDigestOfWhatWasHeard() {
    List<Integer> numbers = new ArrayList<>();
    add(numbers, 2, 0, 0, 0, 2, 0, 0);
    add(numbers, 0, 0, 0, 0, 1, 1, 1, 0);
    for (int i = 0; i < 28; i++) numbers.add(0);
    add(numbers, 1, -1, 0, 1, 0, 1);
    new Run().does("word(0, 0, 0)", "word(1, 1, 1)", "hear(1, -1)", "hear(0, 1)").due("digest()", digestOf(numbers));
  }

  @Sentence(of = 33, says = "THE FRACTION.")
  static void theDigestOfTheFractionAndOfAllThereCanBe() {
    List<Integer> numbers = new ArrayList<>();
    add(numbers, 10, 5, 28, 0, 6, 0, 150);
    for (int w = 0; w < 10; w++) add(numbers, w % 8, w % 8, w + 11, 0);
    for (int i = 0; i < 28; i++) numbers.add(1);
    add(numbers, 2, 7, 0, 1, 1, 2, 4, 3, 5, 4);
    for (int h = 0; h < 6; h++) add(numbers, h, -1);
    add(numbers, 3, 10);
    Run.full().does("rest()", "misheard(0, 7, 7, 7)").due("digest()", digestOf(numbers));
  }

  // ---- what changes nothing

  /** What two objects answer from here on, to the end of what may be undone, read and gone on from. */
  private static void same(Run a, Run b) {
    List<String> calls = new ArrayList<>(List.of("digest()"));
    for (int what = 0; what < 7; what++) calls.add("count(" + what + ")");
    for (int i = 0; i < 9; i++) calls.addAll(List.of("undo()", "answers(0, 0, 1)", "digest()"));
    calls.addAll(List.of("wants(0)", "wants(5)", "from(0)", "digest()", "undo()", "digest()", "read()", "digest()", "clear()"));
    for (String call : calls) b.due(call, a.call(call));
  }

  @Sentence(of = {3, 4, 5, 6, 9, 11, 12, 13, 14, 15, 16, 17, 18, 20, 21, 22, 23, 24, 25, 26, 27, 28, 29, 30, 31, 32},
      says = "Refused, changing nothing but STATUS, the first of:")
  static void whatIsRefusedChangesNothing() {
    Run r = Run.full();
    r.call("from(1)");
    for (String call : new String[] {
        "word(8, 0, 0)", "word(0, 0, 0)", "alike(0, 0, 0)", "alike(0, 1, 2)", "person(6, 0)", "person(0, 0)", "type(128)", "type(59)",
        "ask(0, 0, 10)", "ask(0, 0, 0)", "ask(1, 0, 0)", "of(10, 0)", "about(5, 0)", "answers(0, 0, 3)", "asks(0, 8)", "fewest(0, 256)",
        "errand(256, 0)", "hear(0, -2)", "hear(0, 0)", "wants(6)", "next(6, 0)", "two(0, 0, 0, 0)", "will(6, 0)", "worst(5)",
        "allow(0, 256, 0)", "misheard(0, 0, 0, 11)", "talks(1000000, 0)", "part(2)", "image(2)", "from(2)", "from(1)", "status(3)", "count(7)"}) {
      if (r.call(call) >= 0) Run.WRONG.add(call + " was not refused");
    }
    Run none = Run.full();
    same(none, r);
    Run.forget(r, none);
  }

  @Sentence(of = {14, 15, 16, 17, 20, 21, 22, 23, 24, 25, 27}, says = "(Nothing is changed by these.)")
  static void whatIsOnlyAskedChangesNothing() {
    Run r = Run.full().does("undo()", "undo()");
    List<String> looks = new ArrayList<>();
    for (int p = 0; p < 5; p++) {
      looks.addAll(List.of("answers(" + p + ", 0, 2)", "asks(" + p + ", 1)", "fewest(" + p + ", 2)", "allow(" + p + ", 255, -1)", "worst(" + p + ")"));
      for (int what = 0; what < 3; what++) looks.add("two(" + p + ", " + (p + 1) % 5 + ", 0, " + what + ")");
    }
    for (int kind = 0; kind < 6; kind++) looks.addAll(List.of("wants(" + kind + ")", "next(" + kind + ", 0)", "will(" + kind + ", 3)"));
    looks.addAll(List.of("errand(3, 0)", "errand(3, 1)", "talks(5, 60)", "of(0, 3)", "about(0, 0)", "part(0)", "count(3)", "digest()"));
    long[] first = new long[looks.size()];
    for (int i = 0; i < first.length; i++) first[i] = r.call(looks.get(i));
    // asked once more, the other way round, they answer the same
    for (int i = first.length - 1; i >= 0; i--) r.due(looks.get(i), first[i]);
    Run none = Run.full().does("undo()", "undo()");
    same(none, r);
    Run.forget(r, none);
  }

  @Sentence(of = {3, 5, 6, 9, 18, 30}, says = "BAD -2 a number is not as told; NO -3 as told; FULL -4")
  static void badIsAheadOfNoAndFull() {
    Run r = Run.full().full("word(0, 0, 0)", "person(0, 0)", "type(0)", "hear(0, 0)").no("ask(0, 0, 0)", "from(1)");
    r.bad("word(0, 0, 21)", "person(0, 8)", "type(-1)", "hear(10, 0)", "hear(0, 10)", "ask(0, 0, 10)", "ask(5, 0, 0)", "from(2)");
    r.due("status(0)", 8).due("status(1)", 2).due("status(2)", 4);
  }

  @Sentence(of = {17, 25, 31}, says = "(where others are told they count as these).")
  static void otherAnswersCountAsBad() {
    Run r = new Run().does("person(0, 0)").badBy(-10, "errand(256, 0)", "errand(0, 2)", "allow(0, 256, 0)", "allow(1, 0, 0)").badBy(-1, "status(3)");
    r.due("status(0)", 5).due("status(1)", 0).due("status(2)", 0);
    // what is told to be neither does not count
    r.due("errand(1, 0)", -1).due("allow(0, 0, 0)", -5).due("allow(0, 1, 0)", -1).due("status(0)", 5);
  }
}
