import java.lang.reflect.Method;
import java.nio.file.Path;
import java.util.ArrayList;
import java.util.Comparator;
import java.util.List;

/**
 * Every sentence of the document that names a boundary case has a test of its own in one of the classes below;
 * each says which promise and which sentence it is of. That no sentence was left out is looked at, too.
 */
public final class BoundariesTest {
  private static final Class<?>[] TESTS = {
      TongueEdges.class, TextEdges.class, AskEdges.class, WhatToAskEdges.class, TwoEdges.class, LotsEdges.class, KeptEdges.class};

  private static int passed = 0;
  private static int failed = 0;

  private static List<Method> tests() {
    List<Method> all = new ArrayList<>();
    for (Class<?> c : TESTS) for (Method m : c.getDeclaredMethods()) if (m.isAnnotationPresent(Sentence.class)) all.add(m);
    all.sort(Comparator.comparing((Method m) -> m.getAnnotation(Sentence.class).of()[0]).thenComparing(Method::getName));
    return all;
  }

  private static void wrong(String what) {
    failed++;
    System.out.println(what);
  }

  private static String name(Method m) {
    Sentence s = m.getAnnotation(Sentence.class);
    StringBuilder b = new StringBuilder("promise ");
    for (int i = 0; i < s.of().length; i++) b.append(i == 0 ? "" : ", ").append(s.of()[i]);
    return b.append(" (").append(m.getName()).append("), '").append(String.join("' '", s.says())).append("'").toString();
  }

  private static void run(Method m) throws ReflectiveOperationException {
    Run.WRONG.clear();
    m.invoke(null);
    Run.endAll();
    if (Run.WRONG.isEmpty()) {
      passed++;
      return;
    }
    wrong(name(m) + ":");
    for (String w : Run.WRONG) System.out.println("    " + w);
  }

  public static void main(String[] args) throws Exception {
    Document document = new Document(Path.of("../shared/DOC.md"));
    boolean[] has = new boolean[document.promises() + 1];
    for (Method m : tests()) {
      Sentence s = m.getAnnotation(Sentence.class);
      for (int promise : s.of()) if (promise > 0 && promise < has.length) has[promise] = true;
      for (String says : s.says()) if (!document.has(s.of(), says)) wrong(name(m) + ": the document does not say '" + says + "' there once");
      run(m);
    }
    if (document.promises() != 33) wrong("the document has " + document.promises() + " promises");
    for (int promise = 1; promise < has.length; promise++) if (!has[promise]) wrong("promise " + promise + " has no test");
    for (String words : document.untested()) wrong("no test is of " + words);
    System.out.println(passed + " sentences hold, " + failed + " do not");
    if (failed != 0) System.exit(1);
  }
}
