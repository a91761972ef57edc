import java.util.Objects;

/** Counts and prints what is not as it is due. */
final class Check {
  private static int made = 0;
  private static int wrong = 0;
  private static String test = "";

  interface Call {
    Object run();
  }

  private Check() {}

  /** Says which test the checks from here on are of. */
  static void begin(String name) {
    test = name;
  }

  static int made() {
    return made;
  }

  static void same(String what, Object got, Object want) {
    made++;
    if (!Objects.equals(got, want)) {
      wrong++;
      String name = test.isEmpty() ? "" : test + ": ";
      System.out.println(name + what + " answered " + got + ", due is " + want);
    }
  }

  static void fails(String what, Class<? extends RuntimeException> due, Call call) {
    same(what, outcome(call), "throws " + due.getSimpleName());
  }

  /** Returns the answer, or which exception is thrown. */
  static Object outcome(Call call) {
    try {
      return call.run();
    } catch (RuntimeException thrown) {
      return nameOf(thrown);
    }
  }

  /** An exception of a list or an array, though of the class that is due, was not thrown by us. */
  static String nameOf(Throwable thrown) {
    StackTraceElement[] trace = thrown.getStackTrace();
    boolean isOurs = trace.length > 0
        && (trace[0].getClassName().startsWith("Writersroom")
            || trace[0].getClassName().startsWith("Model"));
    return (isOurs ? "throws " : "the machine throws ") + thrown.getClass().getSimpleName();
  }

  static void end() {
    System.out.println(made + " checks, " + wrong + " wrong");
    if (wrong != 0 || made == 0) {
      System.exit(1);
    }
  }
}
