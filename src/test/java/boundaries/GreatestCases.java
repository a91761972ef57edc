/**
 * Too large where a room is full: the greatest number that there can be of people, facts, scenes,
 * set-ups and questions, and the one above.
 */
final class GreatestCases {
  private static final String INDEX = "IndexOutOfBoundsException";
  private static final String NONE = "throws NoSuchElementException";

  private static final int PEOPLE = 8;
  private static final int FACTS = 24;
  private static final int SCENES = 30;

  private static final String FULL =
      Run.times(PEOPLE, "person true") + Run.times(FACTS, "fact")
      + Run.times(SCENES, "scene 0 0 0 0 0") + "present 0 0 true; present 29 0 true;"
      + "present 0 7 true;";
  private static final String WITH_SET_UPS = FULL + Run.times(20, "setUp 0");
  private static final String WITH_QUESTIONS = FULL + Run.times(20, "question 0 0 7");

  private GreatestCases() {}

  static void tests() {
    scenes();
    scenesOfOtherParts();
    people();
    facts();
    setUpsAndQuestions();
  }

  /** In a call, # stands for the number. */
  private static void greatest(
      int promise, String parameter, String script, String call, int number, Object due) {
    String line = Suite.DOCUMENT.parameter(promise, parameter);
    String made = call.replace("#", Integer.toString(number));
    String above = call.replace("#", Integer.toString(number + 1));
    Suite.test(promise, line, made + ": the greatest that there can be",
        () -> Run.of(script).due(made, due));
    Suite.test(promise, Suite.DOCUMENT.thrown(promise, INDEX),
        parameter + ", " + above + ": one above the greatest that there can be", () -> {
          Run.of(script).fails(above, INDEX);
          Unchanged.check(script, above, PEOPLE, FACTS, SCENES);
        });
  }

  private static void scenes() {
    greatest(5, "scene", FULL, "move # 0 0", 29, 29);
    greatest(6, "scene", FULL, "setCut # true", 29, false);
    greatest(7, "place", FULL, "sceneAt #", 29, 29);
    greatest(11, "scene", FULL, "present # 0 true", 29, true);
    greatest(12, "scene", FULL, "tell # 0", 29, 1);
    greatest(13, "scene", FULL, "keep # 0 0 true", 29, false);
    greatest(14, "scene", FULL, "act # 0 0", 29, false);
    greatest(15, "scene", FULL + "tell 0 0;", "knows 0 0 #", 29, true);
    greatest(19, "first", FULL, "cause # 0", 29, false);
    greatest(19, "second", FULL, "cause 0 #", 29, true);
    greatest(21, "scene", FULL, "depth #", 29, 1);
  }

  private static void scenesOfOtherParts() {
    greatest(22, "scene", FULL, "setUp #", 29, 0);
    greatest(23, "scene", WITH_SET_UPS, "pay 0 #", 29, true);
    greatest(25, "scene", FULL, "question # 0 0", 29, 0);
    greatest(28, "scene", FULL, "state # 0 true false", 29, 0);
    greatest(35, "scene", FULL, "propose 0 # 0 0", 29, 1);
    greatest(39, "scene", FULL, "say # 0 0", 29, true);
  }

  private static void people() {
    greatest(11, "person", FULL, "present 0 # true", 7, true);
    greatest(13, "person", FULL, "keep 0 # 0 true", 7, false);
    greatest(14, "person", FULL + "tell 0 0;", "act 0 # 0", 7, true);
    greatest(15, "person", FULL + "tell 0 0;", "knows # 0 0", 7, true);
    greatest(16, "person", FULL + "tell 0 0;", "since # 0", 7, 0);
    greatest(38, "person", FULL, "never # 0 true", 7, false);
    greatest(39, "person", FULL, "say 0 # 0", 7, true);
    greatest(42, "person", FULL + "act 0 7 0;", "leaving # 0", 7, 1);
    greatest(43, "person", FULL, "promise # 0", 7, -1);
  }

  private static void facts() {
    greatest(12, "fact", FULL, "tell 0 #", 23, 2);
    greatest(13, "fact", FULL, "keep 0 0 # true", 23, false);
    greatest(14, "fact", FULL, "act 0 0 #", 23, false);
    greatest(15, "fact", FULL + "tell 0 23;", "knows 0 # 0", 23, true);
    greatest(16, "fact", FULL, "since 0 #", 23, NONE);
    greatest(18, "fact", FULL + "tell 0 23;", "knowers #", 23, 2);
    greatest(25, "fact", FULL, "question 0 # 0", 23, 0);
    greatest(28, "fact", FULL, "state 0 # true false", 23, 0);
    greatest(29, "fact", FULL + "state 0 23 true true; state 0 23 false false;", "clashes #", 23, 1);
    greatest(30, "fact", FULL + "state 0 23 true true; state 0 23 false false;", "repair #", 23, 1);
    greatest(31, "fact", FULL + "state 0 23 true true;", "isSo #", 23, true);
    greatest(32, "fact", FULL + "tell 0 23;", "remembers # 1 true", 23, true);
  }

  private static void setUpsAndQuestions() {
    greatest(23, "setUp", WITH_SET_UPS, "pay # 29", 19, true);
    greatest(26, "question", WITH_QUESTIONS, "stay # true", 19, false);
    greatest(27, "question", WITH_QUESTIONS, "questionIs #", 19, 'w');
  }
}
