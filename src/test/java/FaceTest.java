import java.lang.reflect.Constructor;
import java.lang.reflect.Field;
import java.lang.reflect.Method;
import java.lang.reflect.Modifier;
import java.nio.charset.StandardCharsets;
import java.nio.file.Files;
import java.nio.file.Path;
import java.util.ArrayList;
import java.util.Collection;
import java.util.HashSet;
import java.util.List;
import java.util.Set;
import java.util.TreeSet;
import java.util.regex.Matcher;
import java.util.regex.Pattern;

/** The face is the one of the document, no more and no less; the tests run at the project's root. */
public final class FaceTest {
  public static void main(String[] args) throws Exception {
    String document = Files.readString(Path.of("../shared/DOC.md"), StandardCharsets.UTF_8);
    int from = document.indexOf("```java");
    String face = document.substring(from, document.indexOf("```", from + 7));
    methods(face);
    members();
    String source = Files.readString(Path.of("src/main/java/Writersroom.java"));
    Check.same("what is public in the document", declarations(face).size(), 50);
    alike("by its words", declarations(source), declarations(face));
    headings(document, source);
    language(source);
    Check.end();
  }

  private static void methods(String face) {
    Set<String> due = new TreeSet<>();
    Matcher line = Pattern.compile("public (\\w+) (\\w+)\\((.*?)\\)(?: throws (.*?))?;").matcher(face);
    while (line.find()) {
      String types = line.group(3).replaceAll("(\\w+) \\w+", "$1");
      String thrown = line.group(4) == null ? "" : line.group(4);
      due.add(line.group(1) + " " + line.group(2) + "(" + types + ") " + thrown);
    }
    Set<String> found = new TreeSet<>();
    for (Method method : Writersroom.class.getDeclaredMethods()) {
      if (!Modifier.isPrivate(method.getModifiers())) {
        found.add(method.getReturnType().getSimpleName() + " " + method.getName() + "("
            + names(method.getParameterTypes()) + ") " + names(method.getExceptionTypes()));
        Check.same(method + " static", Modifier.isStatic(method.getModifiers()), false);
        Check.same(method + " public", Modifier.isPublic(method.getModifiers()), true);
      }
    }
    Check.same("how many methods", found.size(), 48);
    alike("by its members", found, due);
  }

  private static void alike(String how, Collection<String> found, Collection<String> due) {
    List<String> extra = new ArrayList<>(found);
    extra.removeAll(due);
    Check.same("what the face has too much, " + how, extra, List.of());
    List<String> missing = new ArrayList<>(due);
    missing.removeAll(found);
    Check.same("what the face lacks, " + how, missing, List.of());
    Check.same("what the face has, " + how, found.size(), due.size());
  }

  /** All that is public in a text, with the names of the parameters. */
  private static List<String> declarations(String text) {
    List<String> found = new ArrayList<>();
    Matcher line = Pattern.compile("(?m)^ *(public [^;{]+)[;{]").matcher(text);
    while (line.find()) {
      found.add(line.group(1).strip().replaceAll("\\s+", " "));
    }
    return found;
  }

  private static String names(Class<?>[] types) {
    StringBuilder all = new StringBuilder();
    for (Class<?> type : types) {
      all.append(all.length() == 0 ? "" : ", ").append(type.getSimpleName());
    }
    return all.toString();
  }

  private static void members() {
    int modifiers = Writersroom.class.getModifiers();
    Check.same("public and final", modifiers, Modifier.PUBLIC | Modifier.FINAL);
    Constructor<?>[] constructors = Writersroom.class.getDeclaredConstructors();
    Check.same("one constructor", constructors.length, 1);
    Check.same("without parameters", constructors[0].getParameterCount(), 0);
    Check.same("public constructor", constructors[0].getModifiers(), Modifier.PUBLIC);
    Set<String> open = new HashSet<>();
    Set<String> hidden = new HashSet<>();
    for (Method method : Writersroom.class.getDeclaredMethods()) {
      (Modifier.isPrivate(method.getModifiers()) ? hidden : open).add(method.getName());
    }
    for (Class<?> inside : Writersroom.class.getDeclaredClasses()) {
      Check.same(inside + " private", Modifier.isPrivate(inside.getModifiers()), true);
      Check.same(inside + " static", Modifier.isStatic(inside.getModifiers()), true);
      for (Method method : inside.getDeclaredMethods()) {
        hidden.add(method.getName());
      }
      fields(inside);
    }
    fields(Writersroom.class);
    for (Field field : Writersroom.class.getDeclaredFields()) {
      Check.same(field + " private", Modifier.isPrivate(field.getModifiers()), true);
    }
    hidden.retainAll(open);
    Check.same("private methods with a public one's name", hidden, Set.of());
    Check.same("at most twelve classes", Writersroom.class.getDeclaredClasses().length < 12, true);
  }

  private static void fields(Class<?> type) {
    int own = 0;
    for (Field field : type.getDeclaredFields()) {
      int modifiers = field.getModifiers();
      own += Modifier.isStatic(modifiers) ? 0 : 1;
      Check.same(field + " static only if final",
          !Modifier.isStatic(modifiers) || Modifier.isFinal(modifiers), true);
    }
    Check.same(type + " has at most twenty fields", own <= 20, true);
  }

  /** "Ahead of the calls .. the interface says": the last heading ahead of each of them. */
  private static void headings(String document, String source) {
    Matcher group = Pattern.compile("Ahead of the calls (.*?) the interface says: (.*?)\\.\n")
        .matcher(document);
    int calls = 0;
    while (group.find()) {
      Matcher call = Pattern.compile("`(\\w+)`").matcher(group.group(1));
      while (call.find()) {
        calls++;
        int at = source.indexOf(" " + call.group(1) + "(", source.indexOf("public Writersroom()"));
        String ahead = source.substring(0, source.lastIndexOf("  public ", at));
        String heading = ahead.substring(ahead.lastIndexOf("\n  // ") + 6);
        Check.same("the heading ahead of " + call.group(1),
            heading.substring(0, heading.indexOf('\n')), group.group(2));
      }
    }
    Check.same("calls with a heading", calls, 48);
  }

  /** What a look at the text can tell of LANGUAGE.md. */
  private static void language(String source) {
    String code = source.replaceAll("(?s)/\\*.*?\\*/", "").replaceAll("//[^\n]*", "");
    for (String word : new String[] {"try", "catch", "finally", "synchronized", "assert", "record",
        "package", "var", "System", "hashCode", "toString", "instanceof"}) {
      Check.same("no " + word, Pattern.compile("\\b" + word + "\\b").matcher(code).find(), false);
    }
    Check.same("no lambda", code.contains("->"), false);
    Check.same("no method reference", code.contains("::"), false);
    Matcher imported = Pattern.compile("import ([\\w.]+);").matcher(code);
    Set<String> imports = new TreeSet<>();
    while (imported.find()) {
      imports.add(imported.group(1));
    }
    Check.same("imports", imports,
        Set.of("java.util.ArrayList", "java.util.NoSuchElementException"));
    Matcher thrown = Pattern.compile("throw (?!new \\w+\\(\"[^\"]*\"\\);)").matcher(code);
    Check.same("a throw is of a new exception with a written text", thrown.find(), false);
    Matcher made = Pattern.compile("throw new (\\w+)").matcher(code);
    Set<String> allowed = Set.of("IllegalStateException", "IllegalArgumentException",
        "IndexOutOfBoundsException", "ArithmeticException", "UnsupportedOperationException",
        "NoSuchElementException");
    while (made.find()) {
      Check.same("throws " + made.group(1), allowed.contains(made.group(1)), true);
    }
  }
}
