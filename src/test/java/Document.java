import java.io.IOException;
import java.nio.file.Files;
import java.nio.file.Path;
import java.util.ArrayList;
import java.util.List;
import java.util.Map;
import java.util.TreeMap;
import java.util.regex.Matcher;
import java.util.regex.Pattern;

/** The document's promises and terms, and which of their words some test is of. */
final class Document {
  /** The terms, with what stands ahead of the public face, are kept as section 0. */
  static final int TERMS = 0;

  /** What names nothing that a call could break: the summary, the marks of the sections, the headlines of the face. */
  private static final String[] NOTHING_TO_TEST = {
      "^He says only what rhymes: .*? ======== 1 ", " ======== 2 ",
      "Ahead of the calls [^.]*? the interface says: ---- [^.]*\\."};

  private static final class Section {
    final String text;
    final boolean[] quoted;

    Section(String text) {
      this.text = text;
      quoted = new boolean[text.length()];
    }

    void mark(int start, int end) {
      for (int i = start; i < end; i++) quoted[i] = true;
    }
  }

  private final Map<Integer, Section> sections = new TreeMap<>();

  Document(Path file) throws IOException {
    Map<Integer, StringBuilder> texts = new TreeMap<>();
    int now = -1;
    for (String line : Files.readAllLines(file)) {
      Matcher promise = Pattern.compile("## Promise (\\d+): .*").matcher(line);
      if (promise.matches()) now = Integer.parseInt(promise.group(1));
      else if (line.equals("## What it is") || line.equals("## Terms")) now = TERMS;
      else if (line.startsWith("#")) now = -1;
      else if (now >= 0 && !line.startsWith("```")) texts.computeIfAbsent(now, n -> new StringBuilder()).append(line).append(' ');
    }
    texts.forEach((n, text) -> sections.put(n, new Section(withoutSignature(text.toString().replaceAll("\\s+", " ").trim()))));
    for (String pattern : NOTHING_TO_TEST) {
      Matcher m = Pattern.compile(pattern).matcher(sections.get(TERMS).text);
      while (m.find()) sections.get(TERMS).mark(m.start(), m.end());
    }
  }

  private static String withoutSignature(String text) {
    return text.replaceFirst("^`[^`]*`: ", "");
  }

  int promises() {
    return sections.size() - 1;
  }

  /** Whether these words stand once under one of the promises, or else once in the terms. */
  boolean has(int[] promises, String words) {
    for (int promise : promises) if (markIn(promise, words)) return true;
    return markIn(TERMS, words);
  }

  private boolean markIn(int section, String words) {
    Section s = sections.get(section);
    if (s == null) return false;
    int place = s.text.indexOf(words);
    if (place < 0 || s.text.indexOf(words, place + 1) >= 0) return false;
    s.mark(place, place + words.length());
    return true;
  }

  /** The words that no test is of. */
  List<String> untested() {
    List<String> all = new ArrayList<>();
    sections.forEach((n, s) -> {
      StringBuilder b = new StringBuilder();
      for (int i = 0; i <= s.text.length(); i++) {
        if (i < s.text.length() && !s.quoted[i]) {
          b.append(s.text.charAt(i));
        } else {
          if (b.toString().matches(".*[A-Za-z0-9;].*")) all.add((n == TERMS ? "Terms" : "Promise " + n) + ": " + b.toString().trim());
          b.setLength(0);
        }
      }
    });
    return all;
  }
}
