import java.util.Random;

/** Runs of calls by fixed seeds, ordinary and wrong numbers mixed, on the class and on the Model. */
public final class AgainstModelTest {
  /** Some bytes more than a text can have. */
  private static final int MOST_TYPED = 155;
  /** A step may type a whole text, and what comes behind 512 calls is free. */
  private static final int MOST_CALLS_AHEAD_OF_A_STEP = 350;

  private static int wrong = 0;

  private final Random random;
  private final OnlyRhymes x = new OnlyRhymes();
  private final Model m = new Model();
  private final int seed;
  private final int endings;
  private final int wrongOf;
  private int calls;

  private AgainstModelTest(int seed) {
    this.seed = seed;
    random = new Random(seed);
    endings = 1 + random.nextInt(8);
    wrongOf = 12 + random.nextInt(200);
  }

  private void due(String call, long got, long want) {
    calls++;
    if (got != want) {
      wrong++;
      if (wrong <= 20) System.out.println("seed " + seed + ": " + call + " answered " + got + ", due is " + want);
    }
  }

  /** A number 0 .. n - 1, now and then a wrong one. */
  private int some(int n) {
    if (random.nextInt(wrongOf) == 0) {
      int[] odd = {-1, -2, -3, n, n + 1, Integer.MIN_VALUE, Integer.MAX_VALUE, 31, 32, 33, 256, -32};
      return odd[random.nextInt(odd.length)];
    }
    return n <= 0 ? 0 : random.nextInt(n);
  }

  private int w() { return some(m.count(0)); }
  private int p() { return some(m.count(1)); }
  private int meanings() { return random.nextInt(3) == 0 ? some(256) : 1 << random.nextInt(8) | 1 << random.nextInt(8); }

  private static String call(String name, int... args) {
    StringBuilder b = new StringBuilder(name).append('(');
    for (int i = 0; i < args.length; i++) b.append(i == 0 ? "" : ", ").append(args[i]);
    return b.append(')').toString();
  }

  private void tell(String text) {
    for (int i = 0; i < text.length() && i < MOST_TYPED; i++) {
      int c = text.charAt(i);
      due(call("type", c), x.type(c), m.type(c));
    }
  }

  private String blanks() { return " ".repeat(random.nextInt(8) == 0 ? random.nextInt(3) : 0); }

  private String number(int n) {
    if (random.nextInt(60) == 0) return new String[] {"8", "6", "21", "99", "100", "007", "000", "", "a", ";", "-1"}[random.nextInt(11)];
    int v = random.nextInt(n);
    return v < 10 && random.nextInt(15) == 0 ? "0" + v : "" + v;
  }

  private String text() {
    StringBuilder b = new StringBuilder(blanks());
    if (random.nextInt(25) != 0) b.append("tongue").append(blanks()).append(';');
    int items = random.nextInt(15);
    for (int i = 0; i < items; i++) {
      b.append(blanks());
      String gap = random.nextInt(10) == 0 ? "" : " ";
      switch (random.nextInt(12)) {
        case 0, 1 -> b.append("alike").append(gap).append(number(8)).append(' ').append(number(8));
        case 2, 3, 4 -> b.append("person").append(gap).append(number(6)).append(' ').append(number(8));
        case 5 -> b.append(random.nextInt(8) == 0 ? new String[] {"tongue", "words", "", "Word 1 1 1", "\t"}[random.nextInt(5)] : "word 1 1 1");
        default -> b.append("word").append(gap).append(number(endings)).append(' ').append(number(8)).append(' ').append(number(21));
      }
      b.append(blanks());
      if (random.nextInt(60) != 0) b.append(';');
    }
    if (random.nextInt(20) == 0) b.append("word 0");
    return b.toString();
  }

  private void tellText() {
    due("clear()", x.clear(), m.clear());
    tell(text());
    due("read()", x.read(), m.read());
  }

  private void change() {
    switch (random.nextInt(16)) {
      case 0, 1, 2 -> { int a = some(endings), b = some(8), c = some(21); due(call("word", a, b, c), x.word(a, b, c), m.word(a, b, c)); }
      case 3 -> { int a = some(8), b = some(8), c = some(2); due(call("alike", a, b, c), x.alike(a, b, c), m.alike(a, b, c)); }
      case 4 -> { int a = some(6), b = some(8); due(call("person", a, b), x.person(a, b), m.person(a, b)); }
      case 5, 6, 7, 8 -> { int a = p(), b = w(), c = w(); due(call("ask", a, b, c), x.ask(a, b, c), m.ask(a, b, c)); }
      case 9, 10 -> due("undo()", x.undo(), m.undo());
      case 11, 12 -> hear();
      case 13 -> { int i = some(2); due(call("image", i), x.image(i), m.image(i)); }
      case 14 -> { int i = some(2); due(call("from", i), x.from(i), m.from(i)); }
      default -> seldom();
    }
  }

  private void hear() {
    int a = w();
    int b = random.nextInt(4) == 0 ? -1 : w();
    if (random.nextInt(2) == 0 && m.count(1) > 0 && m.count(0) > 0 && a >= 0 && a < m.count(0)) {
      int first = m.answers(random.nextInt(m.count(1)), a, 0);
      b = first == 0 ? -1 : Integer.numberOfTrailingZeros(first);
    }
    due(call("hear", a, b), x.hear(a, b), m.hear(a, b));
  }

  private void seldom() {
    switch (random.nextInt(9)) {
      case 0 -> due("tongue()", x.tongue(), m.tongue());
      case 1, 2 -> due("rest()", x.rest(), m.rest());
      case 3, 4, 5 -> due("forget()", x.forget(), m.forget());
      case 6 -> tellText();
      case 7 -> { int c = some(128); due(call("type", c), x.type(c), m.type(c)); }
      default -> due("read()", x.read(), m.read());
    }
  }

  private void look() {
    switch (random.nextInt(18)) {
      case 0 -> { int a = w(), b = some(4); due(call("of", a, b), x.of(a, b), m.of(a, b)); }
      case 1 -> { int a = p(), b = some(2); due(call("about", a, b), x.about(a, b), m.about(a, b)); }
      case 2, 3 -> { int a = p(), b = w(), c = some(3); due(call("answers", a, b, c), x.answers(a, b, c), m.answers(a, b, c)); }
      case 4 -> { int a = p(), b = some(8); due(call("asks", a, b), x.asks(a, b), m.asks(a, b)); }
      case 5 -> { int a = p(), b = meanings(); due(call("fewest", a, b), x.fewest(a, b), m.fewest(a, b)); }
      case 6 -> { int a = meanings(), b = some(2); due(call("errand", a, b), x.errand(a, b), m.errand(a, b)); }
      case 7 -> { int a = some(6); due(call("wants", a), x.wants(a), m.wants(a)); }
      case 8 -> { int a = some(6), b = some(2); due(call("next", a, b), x.next(a, b), m.next(a, b)); }
      case 9 -> { int a = p(), b = p(), c = w(), d = some(3); due(call("two", a, b, c, d), x.two(a, b, c, d), m.two(a, b, c, d)); }
      case 10 -> { int a = some(6), b = some(8); due(call("will", a, b), x.will(a, b), m.will(a, b)); }
      case 11 -> { int a = p(); due(call("worst", a), x.worst(a), m.worst(a)); }
      case 12, 13 -> { int a = p(), b = meanings(), c = random.nextInt(5) - 2; due(call("allow", a, b, c), x.allow(a, b, c), m.allow(a, b, c)); }
      case 14 -> { int a = p(), b = w(), c = some(8), d = some(11); due(call("misheard", a, b, c, d), x.misheard(a, b, c, d), m.misheard(a, b, c, d)); }
      case 15 -> { int a = some(1000000), b = some(61); due(call("talks", a, b), x.talks(a, b), m.talks(a, b)); }
      case 16 -> { int a = some(2); due(call("part", a), x.part(a), m.part(a)); }
      default -> { int a = some(3), b = some(7); due(call("status", a), x.status(a), m.status(a)); due(call("count", b), x.count(b), m.count(b)); }
    }
  }

  private void run() {
    if (random.nextInt(3) == 0) tellText();
    int words = random.nextInt(11);
    int people = random.nextInt(6);
    for (int i = 0; i < words; i++) { int a = some(endings), b = some(8), c = some(21); due(call("word", a, b, c), x.word(a, b, c), m.word(a, b, c)); }
    for (int i = 0; i < people; i++) { int a = some(6), b = some(8); due(call("person", a, b), x.person(a, b), m.person(a, b)); }
    for (int i = 0; i < 120 && calls < MOST_CALLS_AHEAD_OF_A_STEP; i++) {
      if (random.nextInt(3) == 0) change(); else look();
      due("digest()", x.digest(), m.digest());
    }
    for (int what = 0; what < 3; what++) due(call("status", what), x.status(what), m.status(what));
  }

  public static void main(String[] args) {
    int runs = args.length > 0 ? Integer.parseInt(args[0]) : 1500;
    for (int seed = 0; seed < runs; seed++) new AgainstModelTest(seed).run();
    System.out.println(wrong == 0 ? runs + " runs are as the model's" : wrong + " answers are not the model's");
    if (wrong != 0) System.exit(1);
  }
}
