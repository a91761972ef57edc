import java.io.IOException;
import java.io.UncheckedIOException;
import java.nio.file.Files;
import java.nio.file.Path;
import java.util.ArrayList;
import java.util.HashSet;
import java.util.List;
import java.util.Set;
import java.util.TreeMap;

/** The sentences of ../shared/DOC.md, and which of them tests have been named by. */
final class Document {
  private static final Set<String> HEADINGS = Set.of("Season.", "World.", "Causes.",
      "Set-ups and questions.", "Canon.", "Viewers.", "Board.", "Words.", "Production.",
      "Promises.", "Credit.", "Exceptions.", "Clarifications.");

  /** Parted at semicolons, too. */
  private final List<String> terms = new ArrayList<>();
  private final TreeMap<Integer, List<String>> promises = new TreeMap<>();
  private final Set<String> named = new HashSet<>();

  Document() {
    String text = read().replace("`", "");
    int termsAt = text.indexOf("\n## Terms\n");
    String opening = text.substring(termsAt + 10, text.indexOf("Ahead of the calls ", termsAt));
    for (String part : opening.strip().replaceAll("\\s+", " ").split("(?<=\\.) |; ")) {
      if (!HEADINGS.contains(part)) {
        terms.add(part);
      }
    }
    String rest = text.substring(0, text.indexOf("\n## Not promised"));
    String[] sections = rest.split("\n## Promise ");
    for (int i = 1; i < sections.length; i++) {
      int colon = sections[i].indexOf(':');
      int titleEnd = sections[i].indexOf('\n');
      promises.put(Integer.valueOf(sections[i].substring(0, colon)),
          linesOf(sections[i].substring(titleEnd)));
    }
  }

  /** Without the signature of the call. */
  private static List<String> linesOf(String section) {
    List<String> lines = new ArrayList<>();
    for (String line : section.split("\n")) {
      String words = line.strip().replaceFirst("^- ", "").replaceFirst("^[^:]*\\(.*?\\).*?: ", "");
      if (!words.isEmpty()) {
        lines.add(words);
      }
    }
    return lines;
  }

  private static String read() {
    try {
      return Files.readString(Path.of("../shared/DOC.md"));
    } catch (IOException missing) {
      throw new UncheckedIOException(missing);
    }
  }

  int promises() {
    return promises.size();
  }

  /** Returns whether the words stand in the promise, or in Terms, and keeps that a test has them. */
  boolean name(int promise, String words) {
    boolean isFound = false;
    for (String line : promises.getOrDefault(promise, List.of())) {
      if (line.contains(words)) {
        named.add(promise + ": " + line);
        isFound = true;
      }
    }
    for (String part : terms) {
      if (part.contains(words)) {
        named.add("Terms: " + part);
        isFound = true;
      }
    }
    return isFound && words.length() >= 8 && promises.containsKey(promise);
  }

  /** The line of a promise on one of its numbers. */
  String parameter(int promise, String name) {
    return lineOf(promise, name + ": ");
  }

  String thrown(int promise, String exception) {
    return lineOf(promise, "Throws " + exception + " ");
  }

  private String lineOf(int promise, String beginning) {
    for (String line : promises.getOrDefault(promise, List.of())) {
      if (line.startsWith(beginning)) {
        return line;
      }
    }
    throw new AssertionError("promise " + promise + " has no line " + beginning);
  }

  /** The sentences that no test is named by; lines on booleans aside. */
  List<String> unnamed() {
    List<String> left = new ArrayList<>();
    for (String part : terms) {
      left.add("Terms: " + part);
    }
    for (int promise : promises.keySet()) {
      for (String line : promises.get(promise)) {
        if (!line.contains(": whether ")) {
          left.add(promise + ": " + line);
        }
      }
    }
    left.removeAll(named);
    return left;
  }
}
