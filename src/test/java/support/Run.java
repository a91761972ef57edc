import java.util.ArrayList;
import java.util.List;

/** A room, and the calls made on it as texts. The document promises nothing beyond 512 of them. */
final class Run {
  static final int MOST_CALLS = 512;

  private final Writersroom room = new Writersroom();
  private int calls = 0;

  /** Makes a room, and on it the calls of a script: texts with semicolons between them. */
  static Run of(String... scripts) {
    return new Run().does(scripts);
  }

  /** Makes calls, none of which may throw. */
  Run does(String... scripts) {
    for (String script : scripts) {
      for (String call : split(script)) {
        Object answer = answer(call);
        if (answer instanceof String) {
          Check.same(call + ", on the way,", answer, "no exception");
        }
      }
    }
    return this;
  }

  Run due(String call, Object want) {
    Check.same(call, answer(call), want);
    return this;
  }

  /** Checks that a call throws what is due. */
  Run fails(String call, String exception) {
    return due(call, "throws " + exception);
  }

  Object answer(String call) {
    calls++;
    if (calls > MOST_CALLS) {
      throw new AssertionError("more than 512 calls on one object");
    }
    return Calls.answer(room, call);
  }

  /** The numbers of the scenes by the order, as a text; asks one place more than there are. */
  Run order(String want) {
    StringBuilder all = new StringBuilder();
    Object scene = answer("sceneAt 0");
    for (int place = 1; scene instanceof Integer; place++) {
      all.append(all.length() == 0 ? "" : " ").append(scene);
      scene = answer("sceneAt " + place);
    }
    Check.same("the order", all.toString(), want);
    return this;
  }

  static List<String> split(String script) {
    List<String> calls = new ArrayList<>();
    for (String call : script.split(";")) {
      if (!call.isBlank()) {
        calls.add(call.strip());
      }
    }
    return calls;
  }

  /** A script of the same call so many times. */
  static String times(int times, String call) {
    return (call + "; ").repeat(Math.max(0, times));
  }

  /** A script of one call for each number up to the last; # stands for the number. */
  static String each(int from, int last, String call) {
    StringBuilder all = new StringBuilder();
    for (int number = from; number <= last; number++) {
      all.append(call.replace("#", Integer.toString(number))).append("; ");
    }
    return all.toString();
  }
}
