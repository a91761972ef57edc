/** Sentences on causes, set-ups and questions: promises 19 to 27. */
final class CauseCases {
  private static final String ARGUMENT = "IllegalArgumentException";
  private static final String STATE = "IllegalStateException";
  private static final String UNSUPPORTED = "UnsupportedOperationException";

  /** Scenes 0 to 3, one behind the other, and two facts. */
  private static final String FOUR =
      "scene 0 0 0 0 0; scene 1 0 0 0 1; scene 2 0 0 0 2; scene 3 0 0 0 3; fact; fact;";

  private CauseCases() {}

  static void tests() {
    cause();
    wrongCauses();
    depth();
    setUp();
    pay();
    payAired();
    unpaid();
    question();
    stay();
    questionIs();
    answered();
  }

  private static void cause() {
    String ahead = "Returns whether it is ahead of it, cut or not.";
    Suite.test(19, "Makes a scene the cause of another one.", "once", () -> {
      Run.of(FOUR).due("cause 0 1", true).fails("cause 0 1", UNSUPPORTED).due("depth 1", 2);
    });
    Suite.test(19, "A scene can be the cause of another one", "not of itself",
        () -> Run.of(FOUR).fails("cause 3 3", ARGUMENT).due("depth 3", 1).due("wrongCauses", 0));
    Suite.test(19, "A scene can be the cause of another one", "of several, and by several",
        () -> Run.of(FOUR).due("cause 0 1", true).due("cause 0 2", true).due("cause 1 2", true));
    Suite.test(19, ahead, "by an episode, a minute, a number",
        () -> Run.of(FOUR, "move 1 0 0; move 2 0 1").due("cause 0 3", true).due("cause 0 2", true)
            .due("cause 0 1", true).due("cause 1 0", false).due("cause 2 0", false)
            .due("cause 3 0", false));
    Suite.test(19, ahead, "the first one cut",
        () -> Run.of(FOUR, "setCut 0 true").due("cause 0 1", true).due("cause 1 0", false));
    Suite.test(19, ahead, "the second one cut",
        () -> Run.of(FOUR, "setCut 1 true").due("cause 0 1", true).due("cause 1 0", false));
    Suite.test(19, ahead, "both cut",
        () -> Run.of(FOUR, "setCut 0 true; setCut 1 true").due("cause 0 1", true)
            .due("cause 1 0", false).due("wrongCauses", 0).due("depth 1", 0));
    Suite.test(19, "it should be ahead of it", "it may go back",
        () -> Run.of(FOUR).due("cause 3 0", false).due("wrongCauses", 1));
    Suite.test(19, "if it is so already", "it is not so the other way round",
        () -> Run.of(FOUR, "cause 0 1").due("cause 1 0", false).fails("cause 1 0", UNSUPPORTED)
            .fails("cause 0 1", UNSUPPORTED).due("wrongCauses", 1));
    Suite.test(19, "if it is so already", "though a scene is cut, or the order is another one",
        () -> Run.of(FOUR, "cause 0 1; setCut 0 true").fails("cause 0 1", UNSUPPORTED)
            .does("setCut 0 false; move 0 7 0").fails("cause 0 1", UNSUPPORTED));
    Suite.test(19, "if the episode of the second one aired", "the first one's does not matter",
        () -> Run.of(FOUR, "air; air").fails("cause 2 1", STATE).due("cause 1 2", true)
            .fails("cause 1 1", ARGUMENT));
  }

  private static void wrongCauses() {
    String words = "Returns how many causes are not ahead of what they cause, those from or to cut "
        + "scenes aside.";
    Suite.test(20, words, "one minute, by numbers",
        () -> Run.of(FOUR, "move 1 0 0; cause 0 1; cause 1 0").due("wrongCauses", 1));
    Suite.test(20, words, "wrong since a move, and right again",
        () -> Run.of(FOUR, "cause 0 1; move 0 1 1").due("wrongCauses", 1).does("move 0 1 0")
            .due("wrongCauses", 0));
    Suite.test(20, words, "from a cut one",
        () -> Run.of(FOUR, "cause 1 0; setCut 1 true").due("wrongCauses", 0)
            .does("setCut 1 false").due("wrongCauses", 1));
    Suite.test(20, words, "to a cut one",
        () -> Run.of(FOUR, "cause 1 0; setCut 0 true").due("wrongCauses", 0)
            .does("setCut 0 false").due("wrongCauses", 1));
  }

  private static void depth() {
    String row = "in a row in which each is a cause of the next one, and ahead of it, and which it "
        + "ends";
    Suite.test(21, "Returns the depth of a scene.", "itself too, 1 without causes",
        () -> Run.of(FOUR).due("depth 0", 1).due("depth 3", 1));
    Suite.test(21, row, "the longer of two rows",
        () -> Run.of(FOUR, "cause 0 3; cause 0 1; cause 1 3").due("depth 3", 3));
    Suite.test(21, row, "the longer of two rows, whichever was told last",
        () -> Run.of(FOUR, "cause 1 3; cause 0 1; cause 0 3").due("depth 3", 3));
    Suite.test(21, row, "it ends the row, and does not begin it",
        () -> Run.of(FOUR, "cause 2 3").due("depth 2", 1).due("depth 3", 2));
    Suite.test(21, row, "a cause that is behind",
        () -> Run.of(FOUR, "cause 3 2; cause 1 2").due("depth 2", 2).due("depth 3", 1));
    Suite.test(21, row, "a ring of two",
        () -> Run.of(FOUR, "cause 0 1; cause 1 0").due("depth 0", 1).due("depth 1", 2));
    Suite.test(21, row, "a row that goes back in its middle",
        () -> Run.of(FOUR, "cause 0 2; cause 2 1; cause 1 3").due("depth 2", 2).due("depth 1", 1)
            .due("depth 3", 2));
    Suite.test(21, row, "at one minute, by numbers",
        () -> Run.of(FOUR, "move 0 1 0; move 2 1 0; cause 2 1; cause 0 1; cause 1 2")
            .due("depth 1", 2).due("depth 2", 3));
    Suite.test(21, row, "asked again since a move",
        () -> Run.of(FOUR, "cause 0 1; cause 1 2").due("depth 2", 3).does("move 1 7 0")
            .due("depth 2", 1).due("depth 1", 2));
    String cut = "a cause from or to a cut one counts for nothing.";
    Suite.test(21, cut, "in the middle of a row",
        () -> Run.of(FOUR, "cause 0 1; cause 1 2; setCut 1 true").due("depth 2", 1)
            .does("setCut 1 false").due("depth 2", 3));
    Suite.test(21, cut, "at the beginning of a row",
        () -> Run.of(FOUR, "cause 0 1; cause 1 2; setCut 0 true").due("depth 2", 2));
    Suite.test(21, "Returns the depth, 0 if it is cut.", "at the end of a row",
        () -> Run.of(FOUR, "cause 0 1; cause 1 2; setCut 2 true").due("depth 2", 0)
            .due("depth 1", 2).does("setCut 2 false").due("depth 2", 3));
  }

  private static void setUp() {
    Suite.test(22, "Sets something up in a scene.", "in this one alone", () -> {
      Run.of(FOUR, "setUp 1").due("unpaid", 1).due("pay 0 1", false).due("pay 0 2", true);
    });
    Suite.test(22, "Returns the number of the set-up.", "from 0 on, over all scenes",
        () -> Run.of(FOUR).due("setUp 3", 0).due("setUp 3", 1).due("setUp 0", 2));
    Suite.test(22, "Returns the number of the set-up.", "in a cut one",
        () -> Run.of(FOUR, "setCut 0 true").due("setUp 0", 0).due("unpaid", 0)
            .does("setCut 0 false").due("unpaid", 1));
  }

  private static void pay() {
    String words = "Returns whether it is paid by that.";
    Suite.test(23, words, "in the scene behind",
        () -> Run.of(FOUR, "setUp 1").due("pay 0 2", true).due("unpaid", 0));
    Suite.test(23, words, "in the scene ahead",
        () -> Run.of(FOUR, "setUp 1").due("pay 0 0", false).due("unpaid", 1));
    Suite.test(23, "A set-up in a scene is paid in another one that is behind it, or not.",
        "in the scene itself", () -> Run.of(FOUR, "setUp 1").due("pay 0 1", false).due("unpaid", 1));
    Suite.test(23, "A set-up in a scene is paid in another one that is behind it, or not.",
        "at one minute, by numbers",
        () -> Run.of(FOUR, "move 2 1 0; setUp 1; setUp 2").due("pay 0 2", true)
            .due("pay 1 1", false));
    Suite.test(23, "A set-up in a scene is paid in another one that is behind it, or not.",
        "moved ahead of it", () -> Run.of(FOUR, "setUp 1; pay 0 2; move 2 0 0").due("unpaid", 1)
            .does("move 1 0 0").due("unpaid", 0));
    Suite.test(23, words, "in a cut one", () -> Run.of(FOUR, "setUp 1; setCut 2 true")
        .due("pay 0 2", false).due("unpaid", 1).does("setCut 2 false").due("unpaid", 0));
    String place = "Pays a set-up in a scene, in place of where it was paid.";
    Suite.test(23, place, "the former place counts no more",
        () -> Run.of(FOUR, "setUp 0").due("pay 0 1", true).due("credit 1 1", 1000).due("pay 0 2", true)
            .does("setCut 2 true").due("unpaid", 1).does("setCut 2 false; setCut 1 true")
            .due("unpaid", 0));
    Suite.test(23, place, "by one that does not count",
        () -> Run.of(FOUR, "setUp 1; pay 0 2").due("unpaid", 0).due("pay 0 0", false)
            .due("unpaid", 1).due("paidShare", 0.0f));
    Suite.test(23, place, "twice in the same one",
        () -> Run.of(FOUR, "setUp 1").due("pay 0 2", true).due("pay 0 2", true).due("unpaid", 0));
    Suite.test(23, place, "each set-up by itself",
        () -> Run.of(FOUR, "setUp 0; setUp 0").due("pay 1 3", true).due("unpaid", 1)
            .due("pay 0 3", true).due("unpaid", 0));
  }

  private static void payAired() {
    String words = "Throws IllegalStateException if the episode of the scene, or of that in which it "
        + "was paid, aired, or in a strike";
    Suite.test(23, words, "the set-up's own episode does not matter",
        () -> Run.of(FOUR, "setUp 0; air").due("pay 0 1", true).due("unpaid", 0));
    Suite.test(23, words, "paid in what aired",
        () -> Run.of(FOUR, "setUp 0; pay 0 1; air; air").fails("pay 0 2", STATE).due("unpaid", 0));
    Suite.test(23, words, "to pay in what aired",
        () -> Run.of(FOUR, "setUp 0; pay 0 2; air; air").fails("pay 0 1", STATE)
            .due("pay 0 3", true));
    Suite.test(23, words, "it was paid in what airs next",
        () -> Run.of(FOUR, "setUp 0; pay 0 1; air").due("pay 0 2", true).does("air")
            .due("pay 0 3", true));
    Suite.test(23, words, "another set-up was paid in what aired",
        () -> Run.of(FOUR, "setUp 0; setUp 0; pay 0 1; air; air").due("pay 1 2", true)
            .fails("pay 0 2", STATE));
    Suite.test(23, words, "it was paid in what aired in place of what did not",
        () -> Run.of(FOUR, "setUp 0; pay 0 3; pay 0 1; air; air").fails("pay 0 3", STATE));
    Suite.test(23, words, "it was paid in what aired, though it is not paid by that",
        () -> Run.of(FOUR, "setUp 1; pay 0 0; air").fails("pay 0 2", STATE).due("unpaid", 1));
    Suite.test(23, words, "it was paid in what aired, though that is cut",
        () -> Run.of(FOUR, "setUp 0; pay 0 1; setCut 1 true; air; air").fails("pay 0 2", STATE)
            .due("unpaid", 1));
    Suite.test(23, words, "it was paid in what did not air in place of what did",
        () -> Run.of(FOUR, "setUp 0; pay 0 1; pay 0 3; air; air").due("pay 0 2", true));
  }

  private static void unpaid() {
    String words = "Returns how many set-ups in scenes that are not cut are not paid in one behind "
        + "that is not cut.";
    Suite.test(24, words, "set up in a cut one",
        () -> Run.of(FOUR, "setUp 0; setUp 1; setCut 0 true").due("unpaid", 1));
    Suite.test(24, words, "paid in a cut one",
        () -> Run.of(FOUR, "setUp 0; pay 0 1; setCut 1 true").due("unpaid", 1)
            .does("setCut 1 false").due("unpaid", 0));
    Suite.test(24, words, "paid in one that was moved ahead",
        () -> Run.of(FOUR, "setUp 1; pay 0 2; move 2 1 0").due("unpaid", 0).does("move 2 0 59")
            .due("unpaid", 1));
    Suite.test(24, words, "both cut",
        () -> Run.of(FOUR, "setUp 0; pay 0 1; setCut 0 true; setCut 1 true").due("unpaid", 0));
  }

  private static void question() {
    Suite.test(25, "Puts a question.", "it is there then", () -> {
      Run.of(FOUR).fails("questionIs 0", "IndexOutOfBoundsException").due("question 0 1 7", 0)
          .due("questionIs 0", 'w').fails("questionIs 1", "IndexOutOfBoundsException");
    });
    Suite.test(25, "Returns the number of the question.", "from 0 on, over all scenes and facts",
        () -> Run.of(FOUR).due("question 3 1 0", 0).due("question 0 0 7", 1)
            .due("question 0 0 7", 2));
    Suite.test(25, "A question about a fact is put in a scene, and due by an episode", "in a cut one",
        () -> Run.of(FOUR, "setCut 1 true").due("question 1 0 7", 0).due("questionIs 0", '-')
            .does("setCut 1 false").due("questionIs 0", 'w'));
    Suite.test(25, "A question about a fact is put in a scene, and due by an episode",
        "due by one that aired, ahead of the scene",
        () -> Run.of(FOUR, "air").due("question 3 0 0", 0).due("questionIs 0", 'l'));
  }

  private static void stay() {
    Suite.test(26, "Means a question to stay open, or not.", "both",
        () -> Run.of(FOUR, "question 0 0 7; stay 0 true").due("questionIs 0", 's')
            .does("stay 0 false").due("questionIs 0", 'w'));
    Suite.test(26, "Returns whether it was.", "meant twice",
        () -> Run.of(FOUR, "question 0 0 7").due("stay 0 true", false).due("stay 0 true", true));
    Suite.test(26, "Returns whether it was.", "ended twice",
        () -> Run.of(FOUR, "question 0 0 7; stay 0 true").due("stay 0 false", true)
            .due("stay 0 false", false));
    Suite.test(26, "Returns whether it was.", "each question by itself",
        () -> Run.of(FOUR, "question 0 0 7; question 0 0 7; stay 1 true").due("stay 0 false", false)
            .due("questionIs 1", 's').due("questionIs 0", 'w'));
    Suite.test(26, "it can be meant to stay open", "though its scene aired, or is cut",
        () -> Run.of(FOUR, "question 0 0 7; question 1 0 7; air; setCut 1 true")
            .due("stay 0 true", false).due("stay 1 true", false).due("questionIs 0", 's')
            .due("questionIs 1", '-').does("setCut 1 false").due("questionIs 1", 's'));
  }

  private static void questionIs() {
    String words = "Returns 'a' answered, 's' meant to stay open, 'w' waiting, if the episode by "
        + "which it is due did not air, otherwise 'l' late; the first one that holds; '-' if its "
        + "scene is cut.";
    Suite.test(27, "Returns what a question is.", "each of two by itself",
        () -> Run.of(FOUR, "question 0 0 7; question 0 1 7; tell 1 1").due("questionIs 0", 'w')
            .due("questionIs 1", 'a'));
    Suite.test(27, words, "answered and meant to stay open",
        () -> Run.of(FOUR, "question 0 0 7; tell 1 0; stay 0 true").due("questionIs 0", 'a'));
    Suite.test(27, words, "answered, and what it is due by aired",
        () -> Run.of(FOUR, "question 0 0 1; tell 1 0; air; air").due("questionIs 0", 'a'));
    Suite.test(27, words, "meant to stay open, and late",
        () -> Run.of(FOUR, "question 0 0 0; stay 0 true; air").due("questionIs 0", 's')
            .does("stay 0 false").due("questionIs 0", 'l'));
    Suite.test(27, words, "waiting until the episode airs",
        () -> Run.of(FOUR, "question 0 0 1; air").due("questionIs 0", 'w').does("air")
            .due("questionIs 0", 'l'));
    Suite.test(27, words, "due by the first episode",
        () -> Run.of(FOUR, "question 0 0 0").due("questionIs 0", 'w').does("air")
            .due("questionIs 0", 'l'));
    Suite.test(27, words, "due by the last episode",
        () -> Run.of(FOUR, "question 0 0 7", Run.times(7, "air")).due("questionIs 0", 'w')
            .does("air").due("questionIs 0", 'l'));
    Suite.test(27, words, "late still as later episodes air",
        () -> Run.of(FOUR, "question 0 0 1; air; air; air").due("questionIs 0", 'l')
            .does(Run.times(5, "air")).due("questionIs 0", 'l'));
    Suite.test(27, words, "cut, though answered and meant to stay",
        () -> Run.of(FOUR, "question 0 0 7; tell 1 0; stay 0 true; setCut 0 true")
            .due("questionIs 0", '-').does("setCut 0 false").due("questionIs 0", 'a'));
  }

  private static void answered() {
    String behind = "it is answered if the fact is told in a scene behind that, in an episode up to "
        + "the one by which it is due";
    Suite.test(27, behind, "told in the scene itself",
        () -> Run.of(FOUR, "question 1 0 7; tell 1 0").due("questionIs 0", 'w'));
    Suite.test(27, behind, "told in a scene ahead",
        () -> Run.of(FOUR, "question 1 0 7; tell 0 0").due("questionIs 0", 'w')
            .does("move 0 1 0").due("questionIs 0", 'w').does("move 0 1 1").due("questionIs 0", 'a'));
    Suite.test(27, behind, "told at one minute, by numbers",
        () -> Run.of(FOUR, "question 1 0 7; move 2 1 0; tell 2 0").due("questionIs 0", 'a'));
    Suite.test(27, behind, "told in the episode by which it is due",
        () -> Run.of(FOUR, "question 1 0 2; tell 2 0; move 2 2 59").due("questionIs 0", 'a'));
    Suite.test(27, behind, "told in the episode behind that",
        () -> Run.of(FOUR, "question 1 0 2; tell 2 0; move 2 3 0").due("questionIs 0", 'w'));
    Suite.test(27, behind, "due ahead of its scene",
        () -> Run.of(FOUR, "question 2 0 1; tell 3 0; tell 1 0").due("questionIs 0", 'w'));
    Suite.test(27, behind, "due in the episode of its scene",
        () -> Run.of(FOUR, "question 1 0 1; tell 2 0; move 2 1 1").due("questionIs 0", 'a'));
    Suite.test(27, behind, "told in a cut one",
        () -> Run.of(FOUR, "question 0 0 7; tell 1 0; setCut 1 true").due("questionIs 0", 'w')
            .does("setCut 1 false").due("questionIs 0", 'a'));
    Suite.test(27, behind, "another fact is told",
        () -> Run.of(FOUR, "question 0 0 7; tell 1 1").due("questionIs 0", 'w'));
    Suite.test(27, behind, "told too late, and in time",
        () -> Run.of(FOUR, "question 0 0 2; tell 3 0").due("questionIs 0", 'w').does("tell 2 0")
            .due("questionIs 0", 'a'));
  }
}
