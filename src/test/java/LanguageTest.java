import java.lang.reflect.Constructor;
import java.lang.reflect.Field;
import java.lang.reflect.Method;
import java.lang.reflect.Modifier;
import java.nio.file.Files;
import java.nio.file.Path;
import java.util.ArrayList;
import java.util.List;
import java.util.Set;
import java.util.TreeSet;
import java.util.regex.Matcher;
import java.util.regex.Pattern;

/** The public face, and the rules of LANGUAGE.md that the source and the compiled class can tell. */
public final class LanguageTest {
  private static final String[] FACE = {
      "int tongue()", "int word(int,int,int)", "int alike(int,int,int)", "int person(int,int)", "int type(int)",
      "int clear()", "int read()", "int ask(int,int,int)", "int rest()", "int undo()", "int of(int,int)",
      "int about(int,int)", "int answers(int,int,int)", "int asks(int,int)", "int fewest(int,int)",
      "int errand(int,int)", "int hear(int,int)", "int forget()", "int wants(int)", "int next(int,int)",
      "int two(int,int,int,int)", "int will(int,int)", "int worst(int)", "int allow(int,int,int)",
      "int misheard(int,int,int,int)", "int talks(int,int)", "long part(int)", "int image(int)", "int from(int)",
      "int status(int)", "int count(int)", "long digest()"};
  private static final String[] CONSTANTS = {"NONE", "BAD", "NO", "FULL"};
  private static final String[] WORDS_RULED_OUT = {
      "throw", "throws", "try", "catch", "finally", "synchronized", "assert", "import", "package", "protected",
      "volatile", "transient", "native", "strictfp", "var", "double", "float", "Object", "Exact"};

  private static int wrong = 0;

  private static void check(boolean holds, String what) {
    if (!holds) {
      wrong++;
      System.out.println("not so: " + what);
    }
  }

  private static String signature(Method m) {
    StringBuilder b = new StringBuilder(m.getReturnType().getSimpleName()).append(' ').append(m.getName()).append('(');
    for (Class<?> c : m.getParameterTypes()) b.append(b.charAt(b.length() - 1) == '(' ? "" : ",").append(c.getSimpleName());
    return b.append(')').toString();
  }

  private static void face() {
    Class<?> c = OnlyRhymes.class;
    check(Modifier.isPublic(c.getModifiers()) && Modifier.isFinal(c.getModifiers()), "the class is public and final");
    Set<String> open = new TreeSet<>();
    Set<String> names = new TreeSet<>();
    for (Method m : c.getDeclaredMethods()) {
      if (Modifier.isPublic(m.getModifiers())) {
        open.add(signature(m));
        names.add(m.getName());
      } else {
        check(Modifier.isPrivate(m.getModifiers()), m.getName() + " is public or private");
      }
    }
    check(open.equals(new TreeSet<>(List.of(FACE))), "the public methods are the document's: " + open);
    Constructor<?>[] made = c.getDeclaredConstructors();
    check(made.length == 1 && Modifier.isPublic(made[0].getModifiers()) && made[0].getParameterCount() == 0, "one public constructor");
    Set<String> constants = new TreeSet<>();
    for (Field f : c.getDeclaredFields()) {
      if (Modifier.isPublic(f.getModifiers())) constants.add(f.getName());
      else check(Modifier.isPrivate(f.getModifiers()), f.getName() + " is public or private");
    }
    check(constants.equals(new TreeSet<>(List.of(CONSTANTS))), "the public constants are the document's: " + constants);
    inside(c, names);
  }

  private static void inside(Class<?> c, Set<String> faceNames) {
    check(c.getDeclaredClasses().length <= 11, "at most some twelve classes");
    List<Class<?>> all = new ArrayList<>(List.of(c.getDeclaredClasses()));
    all.add(c);
    for (Class<?> d : all) {
      int own = 0;
      for (Field f : d.getDeclaredFields()) {
        if (Modifier.isStatic(f.getModifiers())) check(Modifier.isFinal(f.getModifiers()), f + " is final");
        else own++;
      }
      check(own <= 20, d.getSimpleName() + " has at most twenty fields");
      for (Method m : d.getDeclaredMethods()) {
        check(m.getParameterCount() <= 7, m.getName() + " takes at most seven parameters");
        if (d != c || Modifier.isPrivate(m.getModifiers())) check(!faceNames.contains(m.getName()), m + " has a name of its own");
      }
      if (d != c) {
        check(Modifier.isStatic(d.getModifiers()), d.getSimpleName() + " is static");
        check(!Modifier.isPublic(d.getModifiers()) && !Modifier.isProtected(d.getModifiers()), d.getSimpleName() + " is not for others");
        check(!d.isAnonymousClass() && !d.isLocalClass(), d.getSimpleName() + " is neither local nor anonymous");
      }
    }
  }

  private static String withoutComments(String source) {
    return source.replaceAll("(?s)/\\*.*?\\*/", "").replaceAll("//[^\n]*", "");
  }

  private static void source(String source) {
    for (int i = 0; i < source.length(); i++) check(source.charAt(i) < 128, "sign " + i + " of the source is plain");
    String code = withoutComments(source).replaceAll("\"[^\"\n]*\"", "\"\"");
    for (String word : WORDS_RULED_OUT) check(!Pattern.compile("\\b" + word + "\\b").matcher(code).find(), "no " + word);
    check(!code.contains("->") && !code.contains("::"), "no lambda, no method reference");
    check(!code.contains("@"), "no annotation");
    check(!Pattern.compile("\\w+Exact\\b").matcher(code).find(), "no Exact");
    check(!Pattern.compile("while \\(true\\)|for \\(;;").matcher(code).find(), "no loop without an end");
    Set<String> library = new TreeSet<>();
    Matcher m = Pattern.compile("\\b([A-Z][a-z]\\w*)\\.([a-z]\\w*)\\(").matcher(code);
    while (m.find()) library.add(m.group(1) + "." + m.group(2));
    check(Set.of("Integer.bitCount", "Integer.numberOfTrailingZeros", "Math.max", "Math.min", "System.arraycopy").containsAll(library),
        "of the library only what is listed: " + library);
    lengths(source);
  }

  /** A method begins with a line that ends in ") {" behind a type, and ends with a brace as far in. */
  private static void lengths(String source) {
    String[] lines = source.split("\n");
    Pattern head = Pattern.compile("^( +)(?:public |private |static |final )*[\\w\\[\\]]+ \\w+\\([^()]*\\) \\{$");
    int methods = 0;
    for (int i = 0; i < lines.length; i++) {
      Matcher m = head.matcher(lines[i]);
      if (!m.matches() || lines[i].contains("else if")) continue;
      methods++;
      int end = i;
      while (end < lines.length && !lines[end].equals(m.group(1) + "}")) end++;
      check(end - i + 1 <= 60, "short: " + lines[i].trim() + ", " + (end - i + 1) + " lines");
    }
    check(methods > 60, "the methods were found");
  }

  public static void main(String[] args) throws Exception {
    face();
    source(Files.readString(Path.of("src/main/java/OnlyRhymes.java")));
    System.out.println(wrong == 0 ? "the face and the rules hold" : wrong + " rules do not hold");
    if (wrong != 0) System.exit(1);
  }
}
