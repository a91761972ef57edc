import java.util.ArrayList;
import java.util.HashSet;
import java.util.List;
import java.util.Set;

/** Tests, each named by the number of a promise, words of the document, and the case of them. */
final class Suite {
  static final Document DOCUMENT = new Document();
  private static final Set<String> NAMES = new HashSet<>();
  private static final List<String> ALL = new ArrayList<>();

  interface Body {
    void run();
  }

  private Suite() {}

  static void test(int promise, String words, String what, Body body) {
    String name = "Promise " + promise + ", \"" + words + "\", " + what;
    Check.begin(name);
    Check.same("stands in the document", DOCUMENT.name(promise, words), true);
    Check.same("no other test is named so", NAMES.add(name), true);
    ALL.add(name);
    int before = Check.made();
    try {
      body.run();
    } catch (RuntimeException | AssertionError thrown) {
      Check.same("the test", thrown, "no exception of its own");
    }
    Check.same("it checks something", Check.made() > before, true);
    Check.begin("");
  }

  static List<String> names() {
    return ALL;
  }
}
