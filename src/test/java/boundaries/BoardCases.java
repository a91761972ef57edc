/** Sentences on the board: promises 35 to 37. */
final class BoardCases {
  private static final String ARGUMENT = "IllegalArgumentException";
  private static final String UNSUPPORTED = "UnsupportedOperationException";

  /** Scenes 0, 1 and 2, in episodes 0, 1 and 2. */
  private static final String THREE = "scene 0 0 0 0 0; scene 1 0 0 0 0; scene 2 0 0 0 0;";
  private static final String FOR_FIVE = "vote 0 5 true; vote 1 5 true; vote 2 5 true;";

  private BoardCases() {}

  static void tests() {
    propose();
    vote();
    votesNeeded();
    merge();
    mergeAndCauses();
    mergeAndCutCauses();
    mergeAndCanon();
    emptyThen();
  }

  private static void propose() {
    Suite.test(35, "Proposes a move on the branch of a writer.", "nothing moves yet",
        () -> Run.of(THREE).due("propose 0 0 7 0", 1).order("0 1 2").due("merge 0", 1)
            .order("1 2 0"));
    Suite.test(35, "Returns how many moves are on it.", "1 to 12",
        () -> Run.of(THREE, Run.times(10, "propose 5 0 0 0")).due("propose 5 1 0 0", 11)
            .due("propose 5 2 0 0", 12));
    Suite.test(35, "Returns how many moves are on it.", "of this branch alone",
        () -> Run.of(THREE, "propose 1 0 0 0").due("propose 0 0 0 0", 1).due("propose 1 0 0 0", 2));
    Suite.test(35, "Each writer, 0 to 5, has a branch: moves of scenes that were proposed",
        "of a scene that is cut, or aired, too",
        () -> Run.of(THREE, "setCut 1 true; air").due("propose 0 0 7 0", 1)
            .due("propose 0 1 7 0", 2).due("propose 0 2 0 0", 3).due("merge 0", 0));
    Suite.test(35, "at most 12, in their order", "the same scene twice",
        () -> Run.of(THREE, "propose 0 0 7 0; propose 0 0 1 30").due("merge 0", 2).order("1 0 2"));
    Suite.test(35, "at most 12, in their order", "the same scene twice, in the other order",
        () -> Run.of(THREE, "propose 0 0 1 30; propose 0 0 7 0").due("merge 0", 2).order("1 2 0"));
  }

  private static void vote() {
    Suite.test(36, "Votes for the branch of a writer, or takes the vote back.", "both",
        () -> Run.of(THREE).due("vote 1 0 true", 1).due("vote 1 0 false", 0));
    Suite.test(36, "Returns how many votes it has.", "a vote given twice",
        () -> Run.of(THREE).due("vote 1 0 true", 1).due("vote 1 0 true", 1));
    Suite.test(36, "Returns how many votes it has.", "a vote taken back twice",
        () -> Run.of(THREE, "vote 2 0 true; vote 1 0 true").due("vote 1 0 false", 1)
            .due("vote 1 0 false", 1));
    Suite.test(36, "Returns how many votes it has.", "all of the other five",
        () -> Run.of(THREE, "vote 0 2 true; vote 1 2 true; vote 3 2 true").due("vote 4 2 true", 4)
            .due("vote 5 2 true", 5));
    Suite.test(36, "Returns how many votes it has.", "of this branch alone",
        () -> Run.of(THREE, "vote 0 2 true; vote 0 3 true; vote 0 1 true").due("vote 1 3 true", 2)
            .due("vote 3 2 true", 2).due("vote 1 0 true", 1));
    Suite.test(36, "Other writers vote for it.", "not the writer itself", () -> {
      Run run = Run.of(THREE);
      for (int writer = 0; writer < 6; writer++) {
        run.fails("vote " + writer + " " + writer + " true", ARGUMENT);
        run.fails("vote " + writer + " " + writer + " false", ARGUMENT);
      }
    });
    Suite.test(36, "Other writers vote for it.", "without moves, and ahead of them",
        () -> Run.of(THREE, FOR_FIVE).fails("merge 5", UNSUPPORTED).does("propose 5 0 7 0")
            .due("merge 5", 1));
  }

  private static void votesNeeded() {
    String words = "other branches need at least half of the other five, 3.";
    Suite.test(37, words, "2 are too few", () -> Run.of(THREE, "propose 5 0 7 0",
        "vote 0 5 true; vote 1 5 true").fails("merge 5", UNSUPPORTED).order("0 1 2")
        .due("vote 2 5 true", 3).due("merge 5", 1));
    Suite.test(37, words, "3, one of them taken back",
        () -> Run.of(THREE, "propose 5 0 7 0", FOR_FIVE, "vote 1 5 false")
            .fails("merge 5", UNSUPPORTED));
    Suite.test(37, words, "5 are enough, each branch by itself", () -> {
      Run run = Run.of(THREE);
      for (int writer = 1; writer < 6; writer++) {
        run.does("propose " + writer + " 0 0 " + writer);
        run.fails("merge " + writer, UNSUPPORTED);
        for (int voter = 0; voter < 6; voter++) {
          run.does(voter == writer ? "" : "vote " + voter + " " + writer + " true");
        }
        run.due("merge " + writer, 1);
      }
    });
    Suite.test(37, words, "votes for another branch do not count",
        () -> Run.of(THREE, "propose 4 0 7 0", FOR_FIVE).fails("merge 4", UNSUPPORTED));
    Suite.test(37, words, "one vote given three times",
        () -> Run.of(THREE, "propose 4 0 7 0", Run.times(3, "vote 0 4 true"))
            .fails("merge 4", UNSUPPORTED));
    String showrunner = "The showrunner, the writer 0, merges without votes";
    Suite.test(37, showrunner, "none at all",
        () -> Run.of(THREE, "propose 0 0 7 0").due("merge 0", 1));
    Suite.test(37, showrunner, "but not without moves",
        () -> Run.of(THREE, "vote 1 0 true; vote 2 0 true; vote 3 0 true").fails("merge 0", UNSUPPORTED)
            .due("vote 4 0 true", 4));
    Suite.test(37, showrunner, "the writer 1 does not",
        () -> Run.of(THREE, "propose 1 0 7 0").fails("merge 1", UNSUPPORTED));
    Suite.test(37, "if it has not votes enough, or no moves", "votes, but no moves",
        () -> Run.of(THREE, FOR_FIVE).fails("merge 5", UNSUPPORTED).due("vote 3 5 true", 4));
  }

  private static void merge() {
    Suite.test(37, "Merges the branch of a writer.", "of this one alone",
        () -> Run.of(THREE, "propose 0 0 7 0; propose 1 1 7 0").due("merge 0", 1).order("1 2 0"));
    Suite.test(37, "Returns how many moves were done.", "none, some, all",
        () -> Run.of(THREE, "air; propose 0 0 7 0").due("merge 0", 0)
            .does("propose 0 0 7 0; propose 0 1 7 0").due("merge 0", 1)
            .does("propose 0 1 7 0; propose 0 2 7 1").due("merge 0", 2).order("0 1 2"));
    Suite.test(37, "Returns how many moves were done.", "one to where the scene is",
        () -> Run.of(THREE, "propose 0 1 1 0").due("merge 0", 1).order("0 1 2"));
    Suite.test(37, "To merge a branch does its moves, one after the other",
        "scenes move with what is told of them",
        () -> Run.of("person true; fact", THREE, "present 0 0 true; tell 0 0; keep 0 0 0 true",
            "setUp 0; say 0 0 5; propose 0 0 7 0").due("merge 0", 1).due("knowers 0", 0)
            .due("keep 0 0 0 false", true).due("since 0 0", 0).due("unpaid", 1)
            .due("never 0 5 true", false).due("wrongLines", 1).due("shooting 7", 1)
            .due("credit 7 0", 1000));
    Suite.test(37, "To merge a branch does its moves, one after the other",
        "a later one goes by what earlier ones did",
        () -> Run.of(THREE, "cause 0 1; propose 0 1 3 0; propose 0 0 2 30").due("merge 0", 2)
            .order("2 0 1").due("wrongCauses", 0));
    Suite.test(37, "To merge a branch does its moves, one after the other",
        "an earlier one does not go by what later ones do",
        () -> Run.of(THREE, "cause 0 1; propose 0 0 2 30; propose 0 1 3 0").due("merge 0", 1)
            .order("0 2 1").due("wrongCauses", 0));
  }

  private static void mergeAndCauses() {
    String words = "but those by which a cause, from or to a cut scene, too, that was ahead of what "
        + "it causes would not be so any more";
    Suite.test(37, words, "the cause is moved behind",
        () -> Run.of(THREE, "cause 0 1; propose 0 0 1 1").due("merge 0", 0).order("0 1 2"));
    Suite.test(37, words, "what is caused is moved ahead",
        () -> Run.of(THREE, "cause 1 2; propose 0 2 0 59").due("merge 0", 0).order("0 1 2"));
    Suite.test(37, words, "to one minute, where the cause has the smaller number",
        () -> Run.of(THREE, "cause 0 1; propose 0 0 1 0").due("merge 0", 1).due("wrongCauses", 0));
    Suite.test(37, words, "to one minute, where the cause has the greater number",
        () -> Run.of(THREE, "move 1 0 0; move 0 1 0; cause 1 0; propose 0 1 1 0").due("merge 0", 0)
            .order("1 0 2").due("wrongCauses", 0));
    Suite.test(37, words, "one of two causes",
        () -> Run.of(THREE, "cause 0 1; cause 0 2; propose 0 0 1 30; propose 0 2 0 0")
            .due("merge 0", 1).order("0 2 1").due("wrongCauses", 0));
    Suite.test(37, words, "one that was not ahead already",
        () -> Run.of(THREE, "cause 1 0; propose 0 1 7 0").due("merge 0", 1).due("wrongCauses", 1));
    Suite.test(37, words, "one that is put right, and stays so",
        () -> Run.of(THREE, "cause 1 0; propose 0 1 0 0; propose 0 0 1 0; propose 0 0 0 0;"
            + "propose 0 1 7 0").due("merge 0", 2).due("wrongCauses", 0).order("1 0 2"));
    Suite.test(37, words, "one of other scenes",
        () -> Run.of(THREE, "cause 0 1; propose 0 2 0 0").due("merge 0", 1).order("0 2 1"));
  }

  private static void mergeAndCutCauses() {
    String words = "from or to a cut scene, too";
    Suite.test(37, words, "to a cut one",
        () -> Run.of(THREE, "cause 0 1; setCut 1 true; propose 0 0 7 0").due("merge 0", 0)
            .order("0 2").does("setCut 1 false").due("wrongCauses", 0));
    Suite.test(37, words, "from a cut one",
        () -> Run.of(THREE, "cause 1 2; setCut 1 true; propose 0 2 0 0").due("merge 0", 0)
            .does("setCut 1 false").due("wrongCauses", 0));
    Suite.test(37, words, "past a cut one that is no cause",
        () -> Run.of(THREE, "setCut 1 true; propose 0 0 7 0").due("merge 0", 1).order("2 0"));
    Suite.test(37, "or of a cut scene", "it stays where it is",
        () -> Run.of(THREE, "setCut 1 true; propose 0 1 7 0; propose 0 0 7 1").due("merge 0", 1)
            .does("setCut 1 false").order("1 2 0"));
    Suite.test(37, "or of a cut scene", "cut since it was proposed, and taken back since",
        () -> Run.of(THREE, "propose 0 1 7 0; setCut 1 true; setCut 1 false").due("merge 0", 1));
  }

  private static void mergeAndCanon() {
    String words = "and those of or to an episode that aired";
    Suite.test(37, words, "of it",
        () -> Run.of(THREE, "propose 0 0 7 0; air").due("merge 0", 0).order("0 1 2"));
    Suite.test(37, words, "to it",
        () -> Run.of(THREE, "propose 0 2 0 59; air").due("merge 0", 0).order("0 1 2"));
    Suite.test(37, words, "of and to the next one",
        () -> Run.of(THREE, "propose 0 1 2 1; propose 0 2 1 59; air").due("merge 0", 2)
            .order("0 2 1"));
    Suite.test(37, words, "all aired", () -> Run.of(THREE, "propose 0 2 7 59", Run.times(8, "air"))
        .due("merge 0", 0).order("0 1 2"));
  }

  private static void emptyThen() {
    String words = "the branch is empty then, and so are its votes";
    Suite.test(37, words, "moves and votes of the showrunner",
        () -> Run.of(THREE, "vote 1 0 true; propose 0 0 0 0; merge 0").fails("merge 0", UNSUPPORTED)
            .due("vote 2 0 true", 1).due("propose 0 0 0 0", 1));
    Suite.test(37, words, "moves and votes of another one",
        () -> Run.of(THREE, FOR_FIVE, "propose 5 0 0 0").due("merge 5", 1)
            .due("propose 5 0 0 0", 1).fails("merge 5", UNSUPPORTED).due("vote 3 5 true", 1));
    Suite.test(37, words, "though no move was done",
        () -> Run.of(THREE, FOR_FIVE, "propose 5 0 0 0; air").due("merge 5", 0)
            .fails("merge 5", UNSUPPORTED).due("vote 3 5 true", 1).due("propose 5 1 1 0", 1));
    Suite.test(37, words, "others keep theirs",
        () -> Run.of(THREE, FOR_FIVE, "propose 5 0 0 0; propose 0 0 0 0; merge 0")
            .due("vote 3 5 true", 4).due("propose 5 0 0 0", 2).due("merge 5", 2));
  }
}
