import java.lang.reflect.InvocationTargetException;
import java.lang.reflect.Method;
import java.lang.reflect.Modifier;
import java.util.ArrayList;
import java.util.List;
import java.util.Map;
import java.util.TreeMap;

/** A new object, called by texts such as "word(0, 0, 3)", and what is due of it. */
final class Run {
  /** What was not as due since the last time that this was emptied. */
  static final List<String> WRONG = new ArrayList<>();

  private static final int MOST_CALLS = 512;
  private static final List<Run> OPEN = new ArrayList<>();
  private static final Map<String, Method> FACE = new TreeMap<>();

  static {
    for (Method m : OnlyRhymes.class.getDeclaredMethods()) if (Modifier.isPublic(m.getModifiers())) FACE.put(m.getName(), m);
  }

  private final OnlyRhymes x = new OnlyRhymes();
  private final int[] refused = new int[3];
  private int calls;

  Run() {
    OPEN.add(this);
  }

  /** Words with endings 0 0 1 1 2, meanings 0 1 2 0 3, costs 3 5 2 9 1; the endings 0 and 1 are alike. */
  static Run five() {
    return new Run().does("word(0, 0, 3)", "word(0, 1, 5)", "word(1, 2, 2)", "word(1, 0, 9)", "word(2, 3, 1)", "alike(0, 1, 1)");
  }

  /** five() with people of the kinds 0 .. 4, who want 2. */
  static Run peopled() {
    Run r = five();
    for (int kind = 0; kind < 5; kind++) r.does("person(" + kind + ", 2)");
    return r;
  }

  /** So many words of ending 0, with meanings 0 .. 7 and from 0 again, and an echo, a rhymer who want 7. */
  static Run echoing(int words) {
    Run r = new Run();
    for (int w = 0; w < words; w++) r.does("word(0, " + w % 8 + ", " + w + ")");
    return r.does("person(2, 7)", "person(0, 7)");
  }

  /** All that there can be at most: 10 words, 5 people, 10 said, 8 to undo, 6 heard, 28 pairs, 150 bytes; image 0. */
  static Run full() {
    Run r = new Run();
    for (int w = 0; w < 10; w++) r.does("word(" + w % 8 + ", " + w % 8 + ", " + (w + 11) + ")");
    r.does("person(2, 7)", "person(0, 1)", "person(1, 2)", "person(4, 3)", "person(5, 4)");
    for (int w = 0; w < 10; w++) r.does("ask(0, " + w + ", " + w + ")");
    for (int h = 0; h < 6; h++) r.does("hear(" + h + ", -1)");
    for (int a = 0; a < 8; a++) for (int b = 0; b < a; b++) r.does("alike(" + a + ", " + b + ", 1)");
    r.type("tongue;word 0 0 0;person 2 7;" + " ".repeat(121));
    return r.does("image(0)");
  }

  private static int[] numbers(String call) {
    String inside = call.substring(call.indexOf('(') + 1, call.length() - 1).trim();
    if (inside.isEmpty()) return new int[0];
    String[] parts = inside.split(",");
    int[] all = new int[parts.length];
    for (int i = 0; i < parts.length; i++) all[i] = Integer.parseInt(parts[i].trim());
    return all;
  }

  /** What a call answers; an exception is written down as wrong. */
  long call(String call) {
    Method m = FACE.get(call.substring(0, call.indexOf('(')));
    int[] numbers = numbers(call);
    Object[] arguments = new Object[numbers.length];
    for (int i = 0; i < numbers.length; i++) arguments[i] = numbers[i];
    if (++calls > MOST_CALLS) WRONG.add("the test makes more than " + MOST_CALLS + " calls");
    try {
      return ((Number) m.invoke(x, arguments)).longValue();
    } catch (InvocationTargetException e) {
      WRONG.add(call + " threw " + e.getCause());
    } catch (IllegalAccessException e) {
      WRONG.add(call + " can not be called");
    }
    return Long.MIN_VALUE;
  }

  Run due(String call, long want) {
    long got = call(call);
    if (got != want) WRONG.add(call + " answered " + got + ", due is " + want);
    return this;
  }

  /** The same answer is due to each of these. */
  Run due(long want, String... all) {
    for (String call : all) due(call, want);
    return this;
  }

  /** What a test is built on: none of these may be refused. */
  Run does(String... all) {
    for (String call : all) {
      long got = call(call);
      if (got < 0) WRONG.add(call + " was refused by " + got);
    }
    return this;
  }

  Run type(String text) {
    for (int i = 0; i < text.length(); i++) does("type(" + (int) text.charAt(i) + ")");
    return this;
  }

  /** Clears THE TEXT, and types another one. */
  Run text(String text) {
    return does("clear()").type(text);
  }

  Run bad(String... all) {
    for (String call : all) refuses(call, -2, 0);
    return this;
  }

  Run badBy(long answer, String... all) {
    for (String call : all) refuses(call, answer, 0);
    return this;
  }

  Run no(String... all) {
    for (String call : all) refuses(call, -3, 1);
    return this;
  }

  Run full(String... all) {
    for (String call : all) refuses(call, -4, 2);
    return this;
  }

  private void refuses(String call, long answer, int reason) {
    long before = call("digest()");
    due(call, answer);
    refused[reason]++;
    if (call("digest()") != before) WRONG.add(call + " was refused and changed something");
    if (call("status(" + reason + ")") != refused[reason]) WRONG.add(call + " was not counted in STATUS, or twice");
  }

  /** What was not refused did not count as refused. */
  private void end() {
    if (calls + 3 > MOST_CALLS) return;
    for (int what = 0; what < 3; what++) due("status(" + what + ")", refused[what]);
  }

  /** These were called by hand: how many of their calls were refused is not known here. */
  static void forget(Run... runs) {
    OPEN.removeAll(List.of(runs));
  }

  static void endAll() {
    for (Run r : OPEN) r.end();
    OPEN.clear();
  }
}
