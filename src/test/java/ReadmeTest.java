import java.nio.file.Files;
import java.nio.file.Path;
import java.util.ArrayList;
import java.util.Arrays;
import java.util.List;
import java.util.Map;
import java.util.Set;
import java.util.TreeMap;
import java.util.TreeSet;
import java.util.regex.Matcher;
import java.util.regex.Pattern;

/** What README.md says of the class, compared with the document and with the class itself. */
public final class ReadmeTest {
  /** A call of the document's face: its parameters' names, and what its promise says. */
  record Call(String name, List<String> parameters, String promise) {
    String shown() {
      return name + "(" + String.join(", ", parameters) + ")";
    }

    String with(int number) {
      String[] all = new String[parameters.size()];
      Arrays.fill(all, "" + number);
      return name + "(" + String.join(", ", all) + ")";
    }
  }

  /** A row of a table of calls. */
  record Row(String does, String refused) {}

  private static final Pattern REASON = Pattern.compile("\\b(BAD|NO|FULL)\\b(?! \\(\\d\\))");
  private static final Pattern STEP = Pattern.compile("x\\.(\\w+\\([^)]*\\)); *// (-?\\d+)(?::.*)?");
  private static final Pattern TYPED = Pattern.compile("for \\(char c : \"([^\"]*)\"\\.toCharArray\\(\\)\\) x\\.type\\(c\\);");

  private static int wrong = 0;

  private static void check(boolean holds, String what) {
    if (!holds) {
      wrong++;
      System.out.println("not so: " + what);
    }
  }

  private static List<Call> calls(String document) {
    List<Call> all = new ArrayList<>();
    Matcher m = Pattern.compile("## Promise \\d+: \\w+\n\n`(?:int|long) (\\w+)\\(([^)]*)\\)`: ([^\n]*)").matcher(document);
    while (m.find()) {
      List<String> names = new ArrayList<>();
      for (String p : m.group(2).split(",")) if (!p.isBlank()) names.add(p.trim().replaceFirst("^int ", ""));
      all.add(new Call(m.group(1), names, m.group(3)));
    }
    return all;
  }

  private static Map<String, Row> rows(String readme) {
    Map<String, Row> all = new TreeMap<>();
    Matcher m = Pattern.compile("(?m)^\\| `(\\w+\\([^)]*\\))` \\| ([^|]*) \\|([^|]*)\\|$").matcher(readme);
    while (m.find()) check(all.put(m.group(1), new Row(m.group(2), m.group(3).trim())) == null, m.group(1) + " has one row");
    return all;
  }

  /** In the order in which they are told; a number behind one says which count of status it is, no reason. */
  private static List<String> reasons(String text) {
    List<String> all = new ArrayList<>();
    Matcher m = REASON.matcher(text);
    while (m.find()) all.add(m.group(1));
    return all;
  }

  private static void constants(String readme) throws ReflectiveOperationException {
    for (String name : List.of("NONE", "BAD", "NO", "FULL")) {
      String row = "| `" + name + "` | " + OnlyRhymes.class.getField(name).getInt(null) + " |";
      check(readme.contains(row), "README.md has the constant " + row);
    }
  }

  private static void tables(List<Call> calls, Map<String, Row> rows) {
    check(calls.size() == 32, "the document has 32 calls: " + calls.size());
    Set<String> shown = new TreeSet<>();
    for (Call c : calls) {
      shown.add(c.shown());
      Row row = rows.get(c.shown());
      check(row != null, "README.md has a row of " + c.shown());
      if (row != null) row(c, row);
    }
    check(shown.equals(rows.keySet()), "README.md has no other calls: " + rows.keySet());
  }

  private static void row(Call c, Row row) {
    check(reasons(row.refused()).equals(reasons(c.promise())), c.shown() + " is refused by " + reasons(c.promise()) + ", not " + row.refused());
    if (c.promise().contains("NONE") && !c.name().equals("digest")) check(row.does().contains("`NONE`"), c.shown() + " tells of NONE");
    for (Matcher m = Pattern.compile("(?<!\\w)\\((\\d)[;)]").matcher(c.promise()); m.find(); )
      check(Pattern.compile("\\(" + m.group(1) + "[;)]").matcher(row.does()).find(), c.shown() + " tells what " + m.group(1) + " is");
    Matcher as = Pattern.compile("\\bBAD, as (-\\d+)").matcher(row.refused());
    int due = as.find() ? Integer.parseInt(as.group(1)) : -2;
    if (row.refused().startsWith("BAD")) new Run().badBy(due, c.with(Integer.MIN_VALUE), c.with(Integer.MAX_VALUE));
    else check(c.parameters().isEmpty(), c.shown() + " can be BAD");
  }

  private static void example(String readme) {
    Matcher block = Pattern.compile("(?s)```java\n(.*?)```").matcher(readme);
    check(block.find(), "README.md has an example");
    Run run = new Run();
    Run.forget(run);
    int steps = 0;
    for (String line : block.group(1).split("\n")) {
      Matcher step = STEP.matcher(line), typed = TYPED.matcher(line);
      if (step.matches()) {
        run.due(step.group(1), Long.parseLong(step.group(2)));
        steps++;
      } else if (typed.matches()) {
        run.type(typed.group(1));
      } else {
        check(line.equals("OnlyRhymes x = new OnlyRhymes();"), "a line of the example with its answer: " + line);
      }
    }
    check(steps > 15, "the example has calls");
  }

  private static void tests(String readme) throws java.io.IOException {
    try (var files = Files.list(Path.of("src/test/java"))) {
      for (Path f : (Iterable<Path>) files.sorted()::iterator) {
        String name = f.getFileName().toString().replace(".java", "");
        check(readme.contains("`" + name + "`") || readme.contains("`@" + name + "`"), "README.md tells what " + name + " is");
      }
    }
    check(readme.contains("`bash .ci/run`"), "README.md says how the tests are run");
  }

  public static void main(String[] args) throws Exception {
    String readme = Files.readString(Path.of("README.md"));
    constants(readme);
    tables(calls(Files.readString(Path.of("../shared/DOC.md"))), rows(readme));
    example(readme);
    tests(readme);
    Run.endAll();
    for (String w : Run.WRONG) check(false, w);
    System.out.println(wrong == 0 ? "README.md is as the document and the class" : wrong + " things in README.md are not so");
    if (wrong != 0) System.exit(1);
  }
}
