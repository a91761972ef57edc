/** Sentences on words, production, promises and credit: promises 38 to 45. */
final class ProductionCases {
  private static final String UNSUPPORTED = "UnsupportedOperationException";

  /** Two people, two facts; scenes 0 to 3 in episode 0, at one set, by one writer. */
  private static final String FOUR =
      "person false; person false; fact; fact;"
      + "scene 0 0 0 0 0; scene 0 1 0 0 0; scene 0 2 0 0 0; scene 0 3 0 0 0;";

  private ProductionCases() {}

  static void tests() {
    never();
    say();
    wrongLines();
    shooting();
    children();
    inOrder();
    leaving();
    standIns();
    promise();
    broken();
    credit();
    creditOfCauses();
    creditOfSetUps();
    arbitration();
  }

  private static void never() {
    Suite.test(38, "Tells whether a person never says a word.", "both",
        () -> Run.of(FOUR, "present 0 0 true; never 0 7 true").due("say 0 0 7", false)
            .does("never 0 7 false").due("say 0 0 7", true));
    Suite.test(38, "Returns whether it was.", "told twice",
        () -> Run.of(FOUR).due("never 0 0 true", false).due("never 0 0 true", true));
    Suite.test(38, "Returns whether it was.", "ended twice",
        () -> Run.of(FOUR, "never 0 99 true").due("never 0 99 false", true)
            .due("never 0 99 false", false));
    Suite.test(38, "Returns whether it was.", "not another person's, nor another word",
        () -> Run.of(FOUR, "never 0 50 true").due("never 1 50 false", false)
            .due("never 0 49 false", false).due("never 0 51 false", false)
            .due("never 0 50 false", true));
    Suite.test(38, "A person never says some words, numbered from 0 to 99.", "all of the 100",
        () -> Run.of(FOUR, "present 0 0 true; present 0 1 true", Run.each(0, 99, "never 0 # true"))
            .due("say 0 0 0", false).due("say 0 0 63", false).due("say 0 0 64", false)
            .due("say 0 0 99", false).due("say 0 1 99", true).due("wrongLines", 4));
    Suite.test(38, "A person never says some words, numbered from 0 to 99.", "though all aired",
        () -> Run.of(FOUR, "present 0 0 true; say 0 0 5", Run.times(8, "air"))
            .due("never 0 5 true", false).due("wrongLines", 1));
  }

  private static void say() {
    Suite.test(39, "Adds a line to a scene.", "it is there then",
        () -> Run.of(FOUR, "present 0 0 true; never 0 5 true; say 0 0 5").due("wrongLines", 1)
            .does("say 0 0 5").due("wrongLines", 2));
    Suite.test(39, "Returns whether the person says this.", "by now, not by later",
        () -> Run.of(FOUR, "present 0 0 true").due("say 0 0 5", true).does("never 0 5 true")
            .due("say 0 0 5", false).due("wrongLines", 2));
    Suite.test(39, "Returns whether the person says this.", "in a cut one",
        () -> Run.of(FOUR, "present 0 0 true; never 0 5 true; setCut 0 true").due("say 0 0 5", false)
            .due("say 0 0 6", true).due("wrongLines", 0).does("setCut 0 false")
            .due("wrongLines", 1));
    String words = "A line in a scene is by a person who is present, with a word.";
    Suite.test(39, words, "who is not present",
        () -> Run.of(FOUR, "present 1 0 true").fails("say 0 0 5", UNSUPPORTED)
            .fails("say 1 1 5", UNSUPPORTED).due("say 1 0 5", true));
    Suite.test(39, words, "who is not present any more",
        () -> Run.of(FOUR, "present 0 0 true; present 0 0 false").fails("say 0 0 5", UNSUPPORTED));
  }

  private static void wrongLines() {
    String words = "Returns how many lines have words that the person never says.";
    Suite.test(40, words, "alike ones count each",
        () -> Run.of(FOUR, "present 0 0 true; never 0 0 true", Run.times(3, "say 0 0 0"))
            .due("wrongLines", 3));
    Suite.test(40, words, "another person's, or another word",
        () -> Run.of(FOUR, "present 0 0 true; present 0 1 true; never 0 0 true",
            "say 0 1 0; say 0 0 1").due("wrongLines", 0));
    Suite.test(40, words, "told never since, and ended",
        () -> Run.of(FOUR, "present 0 0 true; say 0 0 99; never 0 99 true").due("wrongLines", 1)
            .does("never 0 99 false").due("wrongLines", 0));
    Suite.test(40, words, "in a cut one, and taken back",
        () -> Run.of(FOUR, "present 0 0 true; never 0 0 true; say 0 0 0; setCut 0 true")
            .due("wrongLines", 0).does("setCut 0 false").due("wrongLines", 1));
  }

  private static void shooting() {
    String words = "A day of shooting takes at most 3 scenes of one episode at the same set";
    Suite.test(41, "Returns how many days of shooting an episode takes.", "1, 2, 3, 4, 6 and 7",
        () -> Run.of("scene 0 0 0 0 0").due("shooting 0", 1).does("scene 0 0 0 0 0")
            .due("shooting 0", 1).does("scene 0 0 0 0 0").due("shooting 0", 1)
            .does("scene 0 0 0 0 0").due("shooting 0", 2)
            .does("scene 0 0 0 0 0; scene 0 0 0 0 0").due("shooting 0", 2)
            .does("scene 0 0 0 0 0").due("shooting 0", 3));
    Suite.test(41, words, "two episodes", () -> Run.of(FOUR, "move 3 7 0").due("shooting 0", 1)
        .due("shooting 7", 1).does("move 3 0 0").due("shooting 0", 2).due("shooting 7", 0));
    Suite.test(41, words, "cut ones are not shot",
        () -> Run.of(FOUR, "setCut 1 true").due("shooting 0", 1).does("setCut 1 false")
            .due("shooting 0", 2));
    Suite.test(41, "Each set has its own days of shooting", "one scene at each of 10", () -> {
      Run run = new Run();
      for (int set = 0; set < 10; set++) {
        run.does("scene 0 0 0 " + set + " 0");
      }
      run.due("shooting 0", 10);
    });
    Suite.test(41, "Each set has its own days of shooting", "2 and 4 scenes",
        () -> Run.of(FOUR, "scene 0 0 0 9 0; scene 0 0 0 9 0").due("shooting 0", 3));
  }

  private static void children() {
    String words = "a child is in at most 2 of these";
    String child = "person true; person true; person false;"
        + "scene 0 0 0 0 0; scene 0 1 0 0 0; scene 0 2 0 0 0;";
    Suite.test(41, words, "in 2 of 3", () -> Run.of(child, "present 0 0 true; present 2 0 true")
        .due("shooting 0", 1));
    Suite.test(41, words, "in 3 of 3",
        () -> Run.of(child, Run.each(0, 2, "present # 0 true")).due("shooting 0", 2)
            .does("present 1 0 false").due("shooting 0", 1));
    Suite.test(41, words, "in 3 of 3, no child",
        () -> Run.of(child, Run.each(0, 2, "present # 2 true")).due("shooting 0", 1));
    Suite.test(41, words, "the eighth person",
        () -> Run.of(Run.times(7, "person false"), "person true",
            Run.times(3, "scene 0 0 0 0 0"), Run.each(0, 2, "present # 7 true"))
            .due("shooting 0", 2));
    Suite.test(41, words, "in 2 at each of two sets",
        () -> Run.of(child, "scene 0 3 0 1 0; present 0 0 true; present 1 0 true; present 3 0 true")
            .due("shooting 0", 2));
    Suite.test(41, words, "in a cut one",
        () -> Run.of(child, Run.each(0, 2, "present # 0 true"), "setCut 0 true").due("shooting 0", 1));
    Suite.test(41, "each child counts by itself", "two children in 2 each",
        () -> Run.of(child, "present 0 0 true; present 1 0 true; present 1 1 true; present 2 1 true")
            .due("shooting 0", 1));
    Suite.test(41, "each child counts by itself", "the second of two children in 3",
        () -> Run.of(child, "present 0 0 true", Run.each(0, 2, "present # 1 true"))
            .due("shooting 0", 2));
    Suite.test(41, "each child counts by itself", "three children share no day",
        () -> Run.of(child, "present 0 0 true; present 0 1 true; present 1 0 true; present 1 1 true")
            .due("shooting 0", 1).does("present 2 1 true").due("shooting 0", 2));
  }

  private static void inOrder() {
    String words = "By each set, scenes are put in their order, each on the first day on which it can "
        + "be.";
    String six = "person true;" + Run.each(0, 5, "scene 0 # 0 0 0");
    Suite.test(41, words, "without the child it goes on the first day",
        () -> Run.of(six, Run.each(0, 3, "present # 0 true")).due("shooting 0", 2));
    Suite.test(41, words, "in another order it takes one day more",
        () -> Run.of(six, Run.each(2, 5, "present # 0 true")).due("shooting 0", 3));
    Suite.test(41, words, "by the order, not by numbers",
        () -> Run.of(six, Run.each(0, 3, "present # 0 true"), "move 4 0 0; move 5 0 0",
            Run.each(0, 3, "move # 0 1")).due("shooting 0", 3));
  }

  private static void leaving() {
    String words = "An actor leaves with an episode: in scenes of that one, and of later ones, acts of "
        + "this person must go to another one who is present and can know the fact";
    String acts = FOUR + Run.each(0, 3, "present # 0 true; act # 0 0") + "move 1 3 0; move 2 7 59;";
    Suite.test(42, "Returns how many scenes must be changed if an actor leaves with an episode.",
        "each of the 8", () -> Run.of(acts).due("leaving 0 0", 4).due("leaving 0 1", 2)
            .due("leaving 0 2", 2).due("leaving 0 3", 2).due("leaving 0 4", 1)
            .due("leaving 0 5", 1).due("leaving 0 6", 1).due("leaving 0 7", 1));
    Suite.test(42, words, "the acts of another one do not count",
        () -> Run.of(acts).due("leaving 1 0", 0));
    Suite.test(42, words, "cut ones do not count",
        () -> Run.of(acts, "setCut 2 true").due("leaving 0 0", 3).due("leaving 0 7", 0));
    Suite.test(42, words, "whether it aired or not",
        () -> Run.of(acts, Run.times(8, "air")).due("leaving 0 0", 4));
    Suite.test(42, "scenes with an act for which there is none must be changed.", "two acts in one",
        () -> Run.of(FOUR, "present 0 0 true; act 0 0 0; act 0 0 1").due("leaving 0 0", 1));
    Suite.test(42, "scenes with an act for which there is none must be changed.", "one of two acts",
        () -> Run.of(FOUR, "present 0 0 true; present 0 1 true; act 0 0 0; act 0 0 1; tell 0 0")
            .due("leaving 0 0", 1).does("tell 0 1").due("leaving 0 0", 0));
  }

  private static void standIns() {
    String words = "must go to another one who is present and can know the fact";
    String act = FOUR + "present 1 0 true; present 1 1 true; act 1 0 0;";
    Suite.test(42, words, "present, and knows it since this scene",
        () -> Run.of(act, "tell 1 0").due("leaving 0 0", 0));
    Suite.test(42, words, "present, and knows it since one ahead",
        () -> Run.of(act, "present 0 1 true; tell 0 0").due("leaving 0 0", 0));
    Suite.test(42, words, "present, and knows it since one behind",
        () -> Run.of(act, "present 2 1 true; tell 2 0").due("leaving 0 0", 1));
    Suite.test(42, words, "knows it, but is not present",
        () -> Run.of(act, "present 0 1 true; tell 0 0; present 1 1 false").due("leaving 0 0", 1));
    Suite.test(42, words, "present, but does not know it",
        () -> Run.of(act, "tell 1 0; keep 1 1 0 true").due("leaving 0 0", 1));
    Suite.test(42, words, "only who leaves can know it",
        () -> Run.of(act, "present 1 1 false; tell 1 0").due("leaving 0 0", 1).due("unknown", 0));
    Suite.test(42, words, "the eighth person can",
        () -> Run.of(act, "present 1 1 false", Run.times(6, "person false"), "present 1 7 true")
            .due("leaving 0 0", 1).does("tell 1 0").due("leaving 0 0", 0));
  }

  private static void promise() {
    Suite.test(43, "Promises a person up to an episode, in place of what was promised.",
        "longer, and shorter", () -> Run.of(FOUR, "promise 0 3").due("broken", 4)
            .does("promise 0 7").due("broken", 8).does("promise 0 0").due("broken", 1));
    Suite.test(43, "Returns the episode up to which it was, -1 if none.", "none, 7, 0",
        () -> Run.of(FOUR).due("promise 0 7", -1).due("promise 0 0", 7).due("promise 0 0", 0));
    Suite.test(43, "Returns the episode up to which it was, -1 if none.", "each person by itself",
        () -> Run.of(FOUR, "promise 0 7").due("promise 1 3", -1).due("promise 0 3", 7)
            .due("promise 1 7", 3));
    Suite.test(43, "Returns the episode up to which it was, -1 if none.", "though all aired",
        () -> Run.of(FOUR, Run.times(8, "air")).due("promise 0 7", -1).due("broken", 8));
  }

  private static void broken() {
    String words = "A person is promised up to an episode: from 0 to this one, there is a scene with "
        + "this person in each.";
    Suite.test(44, words, "up to the first one",
        () -> Run.of(FOUR, "promise 0 0").due("broken", 1).does("present 0 0 true")
            .due("broken", 0));
    Suite.test(44, words, "up to the last one, there alone",
        () -> Run.of(FOUR, "promise 0 7; present 0 0 true; move 0 7 59").due("broken", 7));
    Suite.test(44, words, "one behind does not count",
        () -> Run.of(FOUR, "promise 0 2; present 0 0 true; move 0 3 0").due("broken", 3)
            .does("move 0 2 59").due("broken", 2));
    Suite.test(44, words, "two scenes in one episode",
        () -> Run.of(FOUR, "promise 0 1; present 0 0 true; present 1 0 true").due("broken", 1));
    Suite.test(44, words, "another person is in it",
        () -> Run.of(FOUR, "promise 0 0; present 0 1 true").due("broken", 1));
    Suite.test(44, words, "in a cut one",
        () -> Run.of(FOUR, "promise 0 0; present 0 0 true; setCut 0 true").due("broken", 1)
            .does("setCut 0 false").due("broken", 0));
    Suite.test(44, "Returns in how many episodes promises are not kept, over all people.",
        "an episode counts for each person",
        () -> Run.of(FOUR, "promise 0 1; promise 1 1").due("broken", 4).does("present 0 1 true")
            .due("broken", 3));
    Suite.test(44, "Returns the number of episodes.", "none promised",
        () -> Run.of(FOUR, "present 0 0 true").due("broken", 0));
  }

  private static void credit() {
    String words = "The credit in an episode is 1000 times what counts for a writer, divided by what "
        + "counts for all, rounded down";
    Suite.test(45, "Returns the credit of a writer in an episode.", "each by itself",
        () -> Run.of("scene 0 0 0 0 0; scene 0 0 0 0 5; scene 7 0 0 0 5").due("credit 0 0", 500)
            .due("credit 0 5", 500).due("credit 7 5", 1000).due("credit 7 0", 0));
    Suite.test(45, words, "2 of 3", () -> Run.of("scene 0 0 0 0 1; scene 0 0 0 0 1; scene 0 0 0 0 2")
        .due("credit 0 1", 666).due("credit 0 2", 333));
    Suite.test(45, words, "1 of 7",
        () -> Run.of("scene 0 0 0 0 1", Run.times(6, "scene 0 0 0 0 2")).due("credit 0 1", 142)
            .due("credit 0 2", 857));
    Suite.test(45, words, "cut ones do not count",
        () -> Run.of("scene 0 0 0 0 1; scene 0 0 0 0 2; setCut 0 true").due("credit 0 1", 0)
            .due("credit 0 2", 1000));
    Suite.test(45, "Returns the credit, 0 without scenes.", "all of the episode cut, or moved",
        () -> Run.of("scene 0 0 0 0 1; scene 1 0 0 0 1; setCut 0 true").due("credit 0 1", 0)
            .does("move 1 2 0").due("credit 1 1", 0).due("credit 2 1", 1000));
  }

  private static void creditOfCauses() {
    String two = "scene 0 0 0 0 1; scene 0 1 0 0 2;";
    String words = "by 1 more for each scene of which it is the cause";
    Suite.test(45, words, "1 and 2 scenes",
        () -> Run.of(two, "scene 0 2 0 0 2; cause 0 1").due("credit 0 1", 500).does("cause 0 2")
            .due("credit 0 1", 600).due("credit 0 2", 400));
    Suite.test(45, words, "of another episode, and by another episode",
        () -> Run.of(two, "scene 7 0 0 0 3; cause 0 2; cause 2 1").due("credit 0 1", 666)
            .due("credit 7 3", 1000));
    String ahead = "A cause counts for credit whether it is ahead or not, if neither scene is cut";
    Suite.test(45, ahead, "not ahead",
        () -> Run.of(two, "cause 1 0").due("credit 0 2", 666).due("wrongCauses", 1));
    Suite.test(45, ahead, "to a cut one",
        () -> Run.of(two, "scene 1 0 0 0 3; cause 0 2; setCut 2 true").due("credit 0 1", 500)
            .does("setCut 2 false").due("credit 0 1", 666));
    Suite.test(45, ahead, "from a cut one",
        () -> Run.of(two, "cause 0 1; setCut 0 true").due("credit 0 1", 0).due("credit 0 2", 1000));
  }

  private static void creditOfSetUps() {
    String two = "scene 0 0 0 0 1; scene 0 1 0 0 2;";
    String counts = "A scene counts for its writer by 1, by 1 more for each scene of which it is the "
        + "cause, and for each set-up in it, and by 2 more for each set-up that is paid in it.";
    Suite.test(45, counts, "1 and 2 set-ups",
        () -> Run.of(two, "setUp 0").due("credit 0 1", 666).does("setUp 0").due("credit 0 1", 750));
    Suite.test(45, counts, "paid in it",
        () -> Run.of(two, "setUp 0; pay 0 1").due("credit 0 1", 400).due("credit 0 2", 600));
    Suite.test(45, counts, "two that are paid in it",
        () -> Run.of(two, "setUp 0; setUp 0; pay 0 1; pay 1 1").due("credit 0 1", 375)
            .due("credit 0 2", 625));
    Suite.test(45, counts, "all of it in one scene",
        () -> Run.of(two, "scene 0 2 0 0 3; setUp 0; setUp 1; pay 0 1; cause 1 0; cause 1 2")
            .due("credit 0 2", 1000 * 6 / 9));
    String paid = "a set-up counts as paid only if it is paid by that.";
    Suite.test(45, paid, "paid in one that is not behind",
        () -> Run.of(two, "setUp 1; pay 0 0").due("credit 0 1", 333).does("pay 0 1")
            .due("credit 0 2", 666));
    Suite.test(45, paid, "set up in a cut one",
        () -> Run.of(two, "setUp 0; pay 0 1; scene 0 2 0 0 3; setCut 0 true")
            .due("credit 0 2", 500));
    Suite.test(45, paid, "paid in a cut one, or in another one since",
        () -> Run.of(two, "scene 0 2 0 0 3; setUp 0; pay 0 1; setCut 1 true").due("credit 0 1", 666)
            .does("setCut 1 false; pay 0 2").due("credit 0 2", 1000 / 6).due("credit 0 3", 500));
    Suite.test(45, paid, "moved ahead of its set-up",
        () -> Run.of(two, "setUp 0; pay 0 1; move 1 0 0; move 0 0 1").due("credit 0 2", 333));
  }

  private static void arbitration() {
    String words = "by arbitration, who has less than 100 has none.";
    Suite.test(45, words, "1 of 10 is 100",
        () -> Run.of("scene 0 0 0 0 1", Run.times(9, "scene 0 0 0 0 2")).due("credit 0 1", 100)
            .due("credit 0 2", 900));
    Suite.test(45, words, "1 of 11 is 90",
        () -> Run.of("scene 0 0 0 0 1", Run.times(10, "scene 0 0 0 0 2")).due("credit 0 1", 0)
            .due("credit 0 2", 909));
    Suite.test(45, words, "2 of 21 is 95, 3 of 29 is 103", () -> {
      Run.of("scene 0 0 0 0 1; scene 0 0 0 0 1", Run.times(19, "scene 0 0 0 0 2"))
          .due("credit 0 1", 0).does("scene 0 0 0 0 1", Run.times(7, "scene 0 0 0 0 2"))
          .due("credit 0 1", 103);
    });
    Suite.test(45, words, "10 of 101 is 99, 10 of 100 is 100", () -> {
      Run.of("scene 0 0 0 0 1", Run.times(20, "scene 0 1 0 0 2"), Run.times(9, "setUp 0"),
          Run.times(11, "setUp 1"), sixtyCauses()).due("credit 0 1", 0).due("credit 0 2", 900)
          .does("setCut 20 true").due("credit 0 1", 100).due("credit 0 2", 900);
    });
  }

  /** Among scenes 1 to 19. */
  private static String sixtyCauses() {
    return Run.each(2, 19, "cause 1 #") + Run.each(3, 19, "cause 2 #") + Run.each(4, 19, "cause 3 #")
        + Run.each(5, 13, "cause 4 #");
  }
}
