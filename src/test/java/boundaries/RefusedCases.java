import java.util.ArrayList;
import java.util.List;

/**
 * A refused call: for each call, each set of reasons to refuse it. The exception that is documented
 * first is thrown, and nothing is changed by it.
 */
final class RefusedCases {
  private static final String INDEX = "IndexOutOfBoundsException";
  private static final String ARGUMENT = "IllegalArgumentException";
  private static final String STATE = "IllegalStateException";
  private static final String UNSUPPORTED = "UnsupportedOperationException";
  private static final String NONE = "NoSuchElementException";
  private static final String ARITHMETIC = "ArithmeticException";

  private static final int PEOPLE = 3;
  private static final int FACTS = 2;
  private static final int SCENES = 5;

  /** 4 acts, 3 causes, 3 set-ups, 2 questions, 3 statements and 2 lines are in it. */
  private static final String WORLD =
      "person false; person false; person true; fact; fact;"
      + "scene 0 0 5 0 0; scene 1 0 4 0 1; scene 2 0 6 1 2; scene 7 59 1 0 0; scene 0 30 5 0 0;"
      + "present 0 0 true; present 0 1 true; present 1 0 true; present 1 1 true;"
      + "present 2 0 true; present 3 0 true; present 3 2 true;"
      + "tell 0 0; tell 1 1; keep 0 1 0 true; act 0 0 0; act 2 0 1; act 0 0 1; act 3 0 0;"
      + "cause 0 1; cause 1 2; cause 3 2; setUp 0; setUp 1; pay 1 2; setUp 0; pay 2 4;"
      + "question 0 1 2; question 3 0 7; stay 1 true;"
      + "state 0 0 true false; state 1 0 false false; state 2 1 true true;"
      + "propose 1 2 3 0; vote 0 1 true; vote 2 1 true; vote 3 1 true;"
      + "vote 0 2 true; vote 1 2 true; vote 3 2 true; propose 3 2 3 0; vote 0 3 true;"
      + "never 0 5 true; say 0 0 5; say 1 1 6; promise 0 2;";

  /** A reason to refuse a call: what is told ahead of it, and what changes in its words. */
  private static final class Reason {
    final String exception;
    final String what;
    /** Reasons of a greater stage are told behind those of a smaller one, as they end the telling. */
    final int stage;
    final String before;
    final int[] changes;

    Reason(String exception, String what, int stage, String before, int... changes) {
      this.exception = exception;
      this.what = what;
      this.stage = stage;
      this.before = before;
      this.changes = changes;
    }
  }

  private RefusedCases() {}

  /** The word at this place of the call, counted from 1, becomes this number. */
  private static Reason number(String exception, String what, int place, int number) {
    return new Reason(exception, what, 0, "", place, number);
  }

  private static Reason full(String exception, String what, String before, int... changes) {
    return new Reason(exception, what, 0, before, changes);
  }

  /** Episode 0 aired, in which scene 0 is. */
  private static Reason aired(String what, int... changes) {
    return new Reason(STATE, what, 1, "air;", changes);
  }

  private static Reason strike() {
    return new Reason(STATE, "in a strike", 2, "strike true;");
  }

  /** 57 more causes, among scenes 5 to 13, which are added. */
  private static String sixtyCauses() {
    StringBuilder all = new StringBuilder(Run.times(9, "scene 7 0 0 0 0"));
    for (int first = 5; first < 13; first++) {
      all.append(Run.each(first + 1, 13, "cause " + first + " #"));
    }
    for (int first = 11; first <= 13; first++) {
      all.append(Run.each(5, first - 1, "cause " + first + " #"));
    }
    return all.toString();
  }

  static void tests() {
    season();
    world();
    causes();
    setUps();
    questions();
    canonAndViewers();
    board();
    words();
    askedOfProduction();
    figures();
  }

  /** The reasons stand as the document has them. */
  private static void call(int promise, String call, Reason... reasons) {
    Suite.test(promise, "If several exceptions apply", call + ": without any reason", () -> {
      Object answer = Run.of(WORLD).answer(call);
      Check.same(call + " throws", answer instanceof String, false);
    });
    for (int some = 1; some < 1 << reasons.length; some++) {
      List<Reason> apply = new ArrayList<>();
      for (int i = 0; i < reasons.length; i++) {
        if ((some >> i & 1) != 0) {
          apply.add(reasons[i]);
        }
      }
      refused(promise, call, apply);
    }
  }

  private static void refused(int promise, String call, List<Reason> apply) {
    StringBuilder what = new StringBuilder();
    for (Reason reason : apply) {
      what.append(what.length() == 0 ? "" : " + ").append(reason.what);
    }
    String script = scriptOf(apply);
    String made = changed(call, apply);
    String first = apply.get(0).exception;
    String words = apply.size() == 1 ? Suite.DOCUMENT.thrown(promise, first)
        : "If several exceptions apply, the one that is documented first is thrown.";
    String name = made + ": " + what;
    Suite.test(promise, words, name, () -> Run.of(script).fails(made, first));
    Suite.test(promise, "A method that throws an exception changes nothing.", name,
        () -> Unchanged.check(script, made, PEOPLE, FACTS, SCENES));
  }

  private static String scriptOf(List<Reason> apply) {
    StringBuilder script = new StringBuilder(WORLD);
    for (int stage = 0; stage <= 2; stage++) {
      for (Reason reason : apply) {
        script.append(reason.stage == stage ? reason.before : "");
      }
    }
    return script.toString();
  }

  /** What is documented first changes the words last, so that it applies. */
  private static String changed(String call, List<Reason> apply) {
    String[] words = call.split(" ");
    for (int i = apply.size() - 1; i >= 0; i--) {
      int[] changes = apply.get(i).changes;
      for (int k = 0; k < changes.length; k += 2) {
        words[changes[k]] = Integer.toString(changes[k + 1]);
      }
    }
    return String.join(" ", words);
  }

  private static void season() {
    call(2, "person true", full(STATE, "there are 8", Run.times(5, "person false")), strike());
    call(3, "fact", full(STATE, "there are 24", Run.times(22, "fact")), strike());
    call(4, "scene 1 0 0 0 0",
        number(ARGUMENT, "episode out of range", 1, 8), number(ARGUMENT, "minute", 2, 60),
        number(ARGUMENT, "day", 3, 1000), number(ARGUMENT, "set", 4, 10),
        number(ARGUMENT, "writer", 5, 6),
        full(STATE, "there are 30", Run.times(25, "scene 7 0 0 0 0")),
        aired("the episode aired", 1, 0), strike());
    call(5, "move 1 7 7",
        number(INDEX, "no such scene", 1, 5),
        number(ARGUMENT, "episode out of range", 2, -1), number(ARGUMENT, "minute", 3, -1),
        aired("its episode aired", 1, 0), aired("that one aired", 2, 0), strike());
    call(6, "setCut 1 true",
        number(INDEX, "no such scene", 1, -1), aired("its episode aired", 1, 0), strike());
    call(7, "sceneAt 4", full(INDEX, "no such place, one being cut", "setCut 0 true;"));
    call(8, "air", full(STATE, "all 8 aired", Run.times(8, "air")));
  }

  private static void world() {
    call(11, "present 1 1 false",
        number(INDEX, "no such scene", 1, 5), number(INDEX, "no such person", 2, 3),
        aired("its episode aired", 1, 0), strike());
    call(12, "tell 1 0",
        number(INDEX, "no such scene", 1, 5), number(INDEX, "no such fact", 2, 2),
        aired("its episode aired", 1, 0), strike());
    call(13, "keep 1 0 1 true",
        number(INDEX, "no such scene", 1, 5), number(INDEX, "no such person", 2, 3),
        number(INDEX, "no such fact", 3, 2), aired("its episode aired", 1, 0), strike());
    call(14, "act 1 0 0",
        number(INDEX, "no such scene", 1, 5), number(INDEX, "no such person", 2, 3),
        number(INDEX, "no such fact", 3, 2), aired("its episode aired", 1, 0), strike(),
        full(UNSUPPORTED, "the person is not present", "", 2, 2),
        full(UNSUPPORTED, "there are 60 acts", Run.times(56, "act 3 0 0")));
    call(15, "knows 0 0 0",
        number(INDEX, "no such person", 1, 3), number(INDEX, "no such fact", 2, 2),
        number(INDEX, "no such scene", 3, 5));
    call(16, "since 0 0",
        number(INDEX, "no such person", 1, 3), number(INDEX, "no such fact", 2, 2),
        full(NONE, "the person never does", "", 1, 2, 2, 1));
    call(18, "knowers 0", number(INDEX, "no such fact", 1, 2));
  }

  private static void causes() {
    call(19, "cause 2 1",
        number(INDEX, "no such scene, the first", 1, 99), number(INDEX, "the second", 2, -99),
        full(ARGUMENT, "both are the same", "", 1, 2, 2, 2),
        aired("the episode of the second one aired", 2, 0), strike(),
        full(UNSUPPORTED, "it is so already", "", 1, 1, 2, 2),
        full(UNSUPPORTED, "there are 60 causes", sixtyCauses()));
    call(21, "depth 0", number(INDEX, "no such scene", 1, 5));
  }

  private static void setUps() {
    call(22, "setUp 1",
        number(INDEX, "no such scene", 1, 5), aired("its episode aired", 1, 0), strike(),
        full(UNSUPPORTED, "there are 20", Run.times(17, "setUp 3")));
    call(23, "pay 0 2",
        number(INDEX, "no such set-up", 1, 3), number(INDEX, "no such scene", 2, 5),
        aired("the episode of the scene aired", 2, 0),
        aired("the episode of that in which it was paid aired", 1, 2),
        strike());
  }

  private static void questions() {
    call(25, "question 1 0 7",
        number(INDEX, "no such scene", 1, 5), number(INDEX, "no such fact", 2, 2),
        number(ARGUMENT, "a number is out of range", 3, 8), aired("its episode aired", 1, 0),
        strike(), full(UNSUPPORTED, "there are 20", Run.times(18, "question 3 0 0")));
    call(26, "stay 0 true", number(INDEX, "no such question", 1, 2), strike());
    call(27, "questionIs 0", number(INDEX, "no such question", 1, 2));
  }

  private static void canonAndViewers() {
    call(28, "state 1 0 true true",
        number(INDEX, "no such scene", 1, 5), number(INDEX, "no such fact", 2, 2),
        aired("its episode aired", 1, 0), strike(),
        full(UNSUPPORTED, "there are 60", Run.times(57, "state 3 0 true false")));
    call(29, "clashes 0", number(INDEX, "no such fact", 1, 2));
    call(30, "repair 0", number(INDEX, "no such fact", 1, 2));
    call(31, "isSo 1", number(INDEX, "no such fact", 1, 9),
        full(NONE, "there is no statement on it", "fact;", 1, 2));
    call(32, "remembers 0 0 true",
        number(INDEX, "no such fact", 1, 2), number(ARGUMENT, "no such episode", 2, 8));
    call(33, "recap 0 true", number(ARGUMENT, "no such episode", 1, 8));
    call(34, "recapAt 7 true 0",
        number(ARGUMENT, "no such episode", 1, 8), number(NONE, "there are not so many", 3, 1));
  }

  private static void board() {
    call(35, "propose 1 0 3 0",
        number(INDEX, "no such scene", 2, 5), number(ARGUMENT, "writer out of range", 1, 6),
        number(ARGUMENT, "episode", 3, 8), number(ARGUMENT, "minute", 4, 60),
        full(STATE, "there are 12", Run.times(11, "propose 1 3 7 0")), strike());
    call(36, "vote 0 4 true",
        number(ARGUMENT, "no such writer who votes", 1, 6), number(ARGUMENT, "no such writer", 2, 6),
        full(ARGUMENT, "both are the same", "", 1, 4, 2, 4), strike());
    call(37, "merge 1",
        number(ARGUMENT, "no such writer", 1, 6), strike(),
        full(UNSUPPORTED, "it has not votes enough", "vote 4 3 true;", 1, 3),
        full(UNSUPPORTED, "no moves", "", 1, 2));
  }

  private static void words() {
    call(38, "never 0 6 true",
        number(INDEX, "no such person", 1, 3), number(ARGUMENT, "no such word", 2, 100), strike());
    call(39, "say 1 0 5",
        number(INDEX, "no such scene", 1, 5), number(INDEX, "no such person", 2, 3),
        number(ARGUMENT, "no such word", 3, 100), aired("its episode aired", 1, 0), strike(),
        full(UNSUPPORTED, "the person is not present", "", 2, 2),
        full(UNSUPPORTED, "there are 90 lines", Run.times(88, "say 3 0 5")));
  }

  private static void askedOfProduction() {
    call(41, "shooting 0", number(ARGUMENT, "no such episode", 1, 8));
    call(42, "leaving 0 0",
        number(INDEX, "no such person", 1, 3), number(ARGUMENT, "no such episode", 2, 8));
    call(43, "promise 1 7",
        number(INDEX, "no such person", 1, 3), number(ARGUMENT, "no such episode", 2, 8), strike());
    call(45, "credit 0 0",
        number(ARGUMENT, "no such episode", 1, 8), number(ARGUMENT, "no such writer", 2, 6));
  }

  private static void figures() {
    call(47, "paidShare", full(ARITHMETIC, "there are none", "setCut 0 true; setCut 1 true;"));
    call(48, "meanDepth", full(ARITHMETIC, "there are none", Run.each(0, 4, "setCut # true")));
  }
}
