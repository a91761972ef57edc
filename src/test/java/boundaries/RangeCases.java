/**
 * Too small and too large: for each number of each call the least and the greatest that the document
 * allows, the one below, the one above, and the least and the greatest int.
 */
final class RangeCases {
  private static final String INDEX = "IndexOutOfBoundsException";
  private static final String ARGUMENT = "IllegalArgumentException";
  private static final String NONE = "NoSuchElementException";

  private static final int PEOPLE = 3;
  private static final int FACTS = 4;
  private static final int SCENES = 4;

  private static final String WORLD =
      "person false; person false; person true; fact; fact; fact; fact;"
      + "scene 0 0 0 0 0; scene 1 0 0 0 1; scene 6 30 0 0 2; scene 7 59 0 0 5;"
      + Run.each(0, 3, "present # 0 true; present # 1 true; present # 2 true")
      + "tell 0 0; tell 2 0; tell 3 1; tell 0 2; tell 1 3;"
      + "act 3 0 2; act 3 0 3; act 0 0 1; cause 0 3; setUp 0; setUp 1;"
      + "question 0 1 7; question 3 1 7;"
      + "state 0 0 true false; state 0 0 false false;"
      + "state 3 3 false false; state 3 3 false false; state 3 3 true false; state 3 3 true false;"
      + "propose 0 0 0 5; propose 5 0 0 5; vote 0 5 true; vote 1 5 true; vote 2 5 true;"
      + "never 0 99 true";

  private RangeCases() {}

  static void tests() {
    season();
    world();
    causes();
    setUpsAndQuestions();
    canon();
    viewers();
    board();
    production();
  }

  /** In a call, # stands for the number. */
  private static void number(int promise, String parameter, String call, int least, int greatest,
      Object atLeast, Object atGreatest, String exception) {
    String line = Suite.DOCUMENT.parameter(promise, parameter);
    allowed(promise, line, call, "the least", least, atLeast);
    allowed(promise, line, call, "the greatest", greatest, atGreatest);
    refused(promise, line, call, "one below the least", least - 1, exception);
    refused(promise, line, call, "one above the greatest", greatest + 1, exception);
    refused(promise, line, call, "the least int", Integer.MIN_VALUE, exception);
    refused(promise, line, call, "the greatest int", Integer.MAX_VALUE, exception);
  }

  private static void allowed(
      int promise, String line, String call, String what, int number, Object due) {
    String made = call.replace("#", Integer.toString(number));
    Suite.test(promise, line, made + ": " + what, () -> Run.of(WORLD).due(made, due));
  }

  private static void refused(
      int promise, String line, String call, String what, int number, String exception) {
    String made = call.replace("#", Integer.toString(number));
    String thrown = Suite.DOCUMENT.thrown(promise, exception);
    String name = line.split(":")[0] + ", " + made + ": " + what;
    Suite.test(promise, thrown, name, () -> Run.of(WORLD).fails(made, exception));
    Suite.test(promise, "A method that throws an exception changes nothing", name,
        () -> Unchanged.check(WORLD, made, PEOPLE, FACTS, SCENES));
  }

  private static void season() {
    number(4, "episode", "scene # 0 0 0 0", 0, 7, 4, 4, ARGUMENT);
    number(4, "minute", "scene 0 # 0 0 0", 0, 59, 4, 4, ARGUMENT);
    number(4, "day", "scene 0 0 # 0 0", 0, 999, 4, 4, ARGUMENT);
    number(4, "set", "scene 0 0 0 # 0", 0, 9, 4, 4, ARGUMENT);
    number(4, "writer", "scene 0 0 0 0 #", 0, 5, 4, 4, ARGUMENT);
    number(5, "scene", "move # 1 0", 0, 3, 0, 2, INDEX);
    number(5, "episode", "move 1 # 0", 0, 7, 1, 2, ARGUMENT);
    number(5, "minute", "move 0 6 #", 0, 59, 1, 2, ARGUMENT);
    number(6, "scene", "setCut # true", 0, 3, false, false, INDEX);
    number(7, "place", "sceneAt #", 0, 3, 0, 3, INDEX);
  }

  private static void world() {
    number(11, "scene", "present # 0 true", 0, 3, true, true, INDEX);
    number(11, "person", "present 0 # true", 0, 2, true, true, INDEX);
    number(12, "scene", "tell # 1", 0, 3, 3, 3, INDEX);
    number(12, "fact", "tell 1 #", 0, 3, 0, 3, INDEX);
    number(13, "scene", "keep # 0 0 true", 0, 3, false, false, INDEX);
    number(13, "person", "keep 0 # 0 true", 0, 2, false, false, INDEX);
    number(13, "fact", "keep 0 0 # true", 0, 3, false, false, INDEX);
    number(14, "scene", "act # 0 3", 0, 3, false, true, INDEX);
    number(14, "person", "act 0 # 0", 0, 2, true, true, INDEX);
    number(14, "fact", "act 0 0 #", 0, 3, true, false, INDEX);
    number(15, "person", "knows # 0 0", 0, 2, true, true, INDEX);
    number(15, "fact", "knows 0 # 0", 0, 3, true, false, INDEX);
    number(15, "scene", "knows 0 1 #", 0, 3, false, true, INDEX);
    number(16, "person", "since # 3", 0, 2, 1, 1, INDEX);
    number(16, "fact", "since 0 #", 0, 3, 0, 1, INDEX);
    number(18, "fact", "knowers #", 0, 3, 3, 3, INDEX);
  }

  private static void causes() {
    number(19, "first", "cause # 1", 0, 3, true, false, INDEX);
    number(19, "second", "cause 1 #", 0, 3, false, true, INDEX);
    number(21, "scene", "depth #", 0, 3, 1, 2, INDEX);
  }

  private static void setUpsAndQuestions() {
    number(22, "scene", "setUp #", 0, 3, 2, 2, INDEX);
    number(23, "setUp", "pay # 2", 0, 1, true, true, INDEX);
    number(23, "scene", "pay 0 #", 0, 3, false, true, INDEX);
    number(25, "scene", "question # 0 0", 0, 3, 2, 2, INDEX);
    number(25, "fact", "question 0 # 0", 0, 3, 2, 2, INDEX);
    number(25, "due", "question 0 0 #", 0, 7, 2, 2, ARGUMENT);
    number(26, "question", "stay # true", 0, 1, false, false, INDEX);
    number(27, "question", "questionIs #", 0, 1, 'a', 'w', INDEX);
  }

  private static void canon() {
    number(28, "scene", "state # 0 true false", 0, 3, 6, 6, INDEX);
    number(28, "fact", "state 0 # true false", 0, 3, 6, 6, INDEX);
    number(29, "fact", "clashes #", 0, 3, 1, 4, INDEX);
    number(30, "fact", "repair #", 0, 3, 1, 2, INDEX);
    number(31, "fact", "isSo #", 0, 3, false, true, INDEX);
  }

  private static void viewers() {
    number(32, "fact", "remembers # 7 true", 0, 3, true, false, INDEX);
    number(32, "episode", "remembers 0 # true", 0, 7, false, true, ARGUMENT);
    number(33, "episode", "recap # true", 0, 7, 0, 2, ARGUMENT);
    number(34, "episode", "recapAt # true 0", 0, 7, "throws " + NONE, 2, ARGUMENT);
    number(34, "index", "recapAt 7 true #", 0, 1, 2, 3, NONE);
  }

  private static void board() {
    number(35, "writer", "propose # 1 0 0", 0, 5, 2, 2, ARGUMENT);
    number(35, "scene", "propose 1 # 0 0", 0, 3, 1, 1, INDEX);
    number(35, "episode", "propose 1 0 # 0", 0, 7, 1, 1, ARGUMENT);
    number(35, "minute", "propose 1 0 0 #", 0, 59, 1, 1, ARGUMENT);
    number(36, "voter", "vote # 1 true", 0, 5, 1, 1, ARGUMENT);
    number(36, "writer", "vote 1 # true", 0, 5, 1, 3, ARGUMENT);
    number(37, "writer", "merge #", 0, 5, 1, 1, ARGUMENT);
  }

  private static void production() {
    number(38, "person", "never # 5 true", 0, 2, false, false, INDEX);
    number(38, "word", "never 0 # true", 0, 99, false, true, ARGUMENT);
    number(39, "scene", "say # 0 0", 0, 3, true, true, INDEX);
    number(39, "person", "say 0 # 99", 0, 2, false, true, INDEX);
    number(39, "word", "say 0 0 #", 0, 99, true, false, ARGUMENT);
    number(41, "episode", "shooting #", 0, 7, 1, 1, ARGUMENT);
    number(42, "person", "leaving # 0", 0, 2, 1, 0, INDEX);
    number(42, "episode", "leaving 0 #", 0, 7, 1, 0, ARGUMENT);
    number(43, "person", "promise # 0", 0, 2, -1, -1, INDEX);
    number(43, "episode", "promise 0 #", 0, 7, -1, -1, ARGUMENT);
    number(45, "episode", "credit # 0", 0, 7, 1000, 0, ARGUMENT);
    number(45, "writer", "credit 0 #", 0, 5, 1000, 0, ARGUMENT);
  }
}
