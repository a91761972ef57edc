/** Sentences on canon and viewers: promises 28 to 34. */
final class CanonCases {
  private static final String NONE = "NoSuchElementException";

  /** Scenes 0 to 3, one behind the other, a person in each, and two facts. */
  private static final String FOUR =
      "person false; fact; fact; scene 0 0 0 0 0; scene 0 1 0 0 0; scene 0 2 0 0 0; scene 0 3 0 0 0;"
      + Run.each(0, 3, "present # 0 true");

  private CanonCases() {}

  static void tests() {
    state();
    past();
    clashes();
    repair();
    isSo();
    weekly();
    binge();
    recap();
    recapAt();
  }

  private static void state() {
    Suite.test(28, "States a fact in a scene.", "this fact alone",
        () -> Run.of(FOUR, "state 0 1 true false").fails("isSo 0", NONE).due("isSo 1", true));
    Suite.test(28, "Returns the number of the statement.", "from 0 on, over all facts and scenes",
        () -> Run.of(FOUR).due("state 3 1 true true", 0).due("state 0 0 false false", 1)
            .due("state 0 0 false false", 2));
    Suite.test(28, "A statement in a scene says that a fact is so, or not", "in a cut one",
        () -> Run.of(FOUR, "setCut 1 true").due("state 1 0 true false", 0).fails("isSo 0", NONE)
            .does("setCut 1 false").due("isSo 0", true));
    Suite.test(28, "they go by their scenes, then by numbers", "scenes ahead of numbers",
        () -> Run.of(FOUR, "state 3 0 true false; state 0 0 false false").due("isSo 0", true));
    Suite.test(28, "they go by their scenes, then by numbers", "in one scene",
        () -> Run.of(FOUR, "state 1 0 true false; state 1 0 false false").due("isSo 0", false));
    Suite.test(28, "they go by their scenes, then by numbers", "scenes at one minute",
        () -> Run.of(FOUR, "move 1 0 0; state 1 0 true false; state 0 0 false false")
            .due("isSo 0", true));
    Suite.test(28, "they go by their scenes, then by numbers", "scenes that are moved",
        () -> Run.of(FOUR, "state 0 0 true false; state 1 0 false false").due("isSo 0", false)
            .does("move 0 0 59").due("isSo 0", true));
  }

  private static void past() {
    String words = "One about the past takes away all statements on this fact ahead of it.";
    Suite.test(29, words, "of scenes ahead",
        () -> Run.of(FOUR, "state 0 0 true false; state 1 0 false true").due("clashes 0", 0)
            .due("repair 0", 0).due("isSo 0", false));
    Suite.test(29, words, "of the same scene, by numbers",
        () -> Run.of(FOUR, "state 1 0 true false; state 1 0 false true; state 1 0 true false")
            .due("clashes 0", 1).due("repair 0", 1));
    Suite.test(29, words, "not those behind it",
        () -> Run.of(FOUR, "state 1 0 false true; state 2 0 true false; state 3 0 true false")
            .due("clashes 0", 2).due("repair 0", 1).due("isSo 0", true));
    Suite.test(29, words, "not itself, and not those of other facts",
        () -> Run.of(FOUR, "state 0 1 true false; state 0 1 false false; state 1 0 false true")
            .due("clashes 1", 1).due("clashes 0", 0).due("isSo 0", false));
    Suite.test(29, words, "another one about the past, too",
        () -> Run.of(FOUR, "state 0 0 true false; state 1 0 false true; state 2 0 true true")
            .due("clashes 0", 0).due("isSo 0", true).does("state 3 0 false false")
            .due("clashes 0", 1));
    Suite.test(29, words, "taken away by one that is taken away itself",
        () -> Run.of(FOUR, "state 0 0 true false; state 1 0 false true; state 2 0 false true")
            .due("clashes 0", 0).does("setCut 2 true").due("clashes 0", 0).does("setCut 1 true")
            .due("isSo 0", true));
    Suite.test(29, words, "that is cut, and taken back",
        () -> Run.of(FOUR, "state 0 0 true false; state 1 0 false false; state 2 0 true true",
            "setCut 2 true").due("clashes 0", 1).does("setCut 2 false").due("clashes 0", 0));
    Suite.test(29, words, "that is moved ahead",
        () -> Run.of(FOUR, "state 1 0 true false; state 2 0 false true").due("clashes 0", 0)
            .does("move 2 0 0").due("clashes 0", 1));
    Suite.test(29, words, "in the first scene", () -> Run.of(FOUR, "state 1 0 true false",
        "state 0 0 false true").due("clashes 0", 1).due("isSo 0", true));
  }

  private static void clashes() {
    String words = "Two statements on a fact, of those not taken away, contradict each other if one "
        + "says so and the other not.";
    Suite.test(29, "Returns how many pairs of statements on a fact contradict each other.",
        "one statement", () -> Run.of(FOUR, "state 0 0 true false").due("clashes 0", 0));
    Suite.test(29, words, "alike ones do not", () -> Run.of(FOUR, Run.times(3, "state 0 0 true false"),
        Run.times(3, "state 1 1 false false")).due("clashes 0", 0).due("clashes 1", 0));
    Suite.test(29, words, "two by three",
        () -> Run.of(FOUR, Run.times(2, "state 0 0 true false"), Run.times(3, "state 1 0 false false"))
            .due("clashes 0", 6));
    Suite.test(29, words, "one about the past and one behind it",
        () -> Run.of(FOUR, "state 0 0 true true; state 1 0 false false").due("clashes 0", 1));
    Suite.test(29, words, "those in cut scenes do not",
        () -> Run.of(FOUR, "state 0 0 true false; state 1 0 false false; setCut 0 true")
            .due("clashes 0", 0));
  }

  private static void repair() {
    String words = "The least repair is the fewest of these to strike so that none contradict.";
    Suite.test(30, "Returns the least repair of a fact.", "one statement",
        () -> Run.of(FOUR, "state 0 0 false false").due("repair 0", 0));
    Suite.test(30, words, "fewer say so", () -> Run.of(FOUR, "state 0 0 true false",
        Run.times(3, "state 1 0 false false")).due("repair 0", 1).due("clashes 0", 3));
    Suite.test(30, words, "fewer say not", () -> Run.of(FOUR, "state 0 0 false false",
        Run.times(3, "state 1 0 true false")).due("repair 0", 1));
    Suite.test(30, words, "as many of each", () -> Run.of(FOUR, Run.times(2, "state 0 0 false false"),
        Run.times(2, "state 1 0 true false")).due("repair 0", 2).due("clashes 0", 4));
    Suite.test(30, words, "those taken away, or cut, do not count",
        () -> Run.of(FOUR, Run.times(5, "state 0 0 true false"), "state 1 0 true true",
            "state 2 0 false false; state 3 0 false false").due("repair 0", 1)
            .does("setCut 3 true").due("repair 0", 1).does("setCut 2 true").due("repair 0", 0));
    Suite.test(30, "Returns the number of statements.", "of this fact alone",
        () -> Run.of(FOUR, "state 0 0 true false; state 1 1 false false").due("repair 0", 0)
            .due("repair 1", 0));
  }

  private static void isSo() {
    String words = "A fact is as the last one of them says.";
    Suite.test(31, "Returns whether a fact is so.", "so, and not so",
        () -> Run.of(FOUR, "state 0 0 true false; state 0 1 false false").due("isSo 0", true)
            .due("isSo 1", false));
    Suite.test(31, "Returns whether it is.", "though most say otherwise",
        () -> Run.of(FOUR, Run.times(5, "state 0 0 true false"), "state 1 0 false false")
            .due("isSo 0", false));
    Suite.test(31, words, "one about the past is the last",
        () -> Run.of(FOUR, "state 0 0 true false; state 1 0 false true").due("isSo 0", false));
    Suite.test(31, words, "one about the past is not the last",
        () -> Run.of(FOUR, "state 3 0 true false; state 1 0 false true").due("isSo 0", true));
    Suite.test(31, words, "the last one is cut",
        () -> Run.of(FOUR, "state 0 0 true false; state 1 0 false false; setCut 1 true")
            .due("isSo 0", true).does("setCut 1 false").due("isSo 0", false));
    Suite.test(31, "if there is no statement on it", "one on another fact, one in a cut scene",
        () -> Run.of(FOUR, "state 0 1 true false; state 2 0 true false; setCut 2 true")
            .fails("isSo 0", NONE).due("isSo 1", true));
  }

  /** Of a fact told in episode 2 alone: whether it is remembered in each of the 8. */
  private static void remembered(String kind, String words, String what, String due) {
    Suite.test(32, words, what, () -> {
      Run run = Run.of("fact; scene 2 30 0 0 0; tell 0 0");
      for (int episode = 0; episode < 8; episode++) {
        run.due("remembers 0 " + episode + " " + kind, due.charAt(episode) == 'y');
      }
    });
  }

  private static void weekly() {
    String words = "Who watches weekly remembers a fact for 1 episode behind that in which it was "
        + "told last, who binges for 3.";
    remembered("true", words, "weekly, told in 2", "nnnynnnn");
    Suite.test(32, words, "weekly, told last in two of one episode",
        () -> Run.of("fact; scene 0 0 0 0 0; scene 2 0 0 0 0; scene 2 59 0 0 0",
            "tell 0 0; tell 1 0; tell 2 0").due("remembers 0 1 true", true)
            .due("remembers 0 2 true", false).due("remembers 0 3 true", true)
            .does("setCut 2 true").due("remembers 0 3 true", true).does("setCut 1 true")
            .due("remembers 0 3 true", false));
    String same = "A fact told in an episode is not remembered in this one by that.";
    Suite.test(32, same, "the first and the last episode",
        () -> Run.of("fact; scene 0 0 0 0 0; scene 7 0 0 0 0; tell 0 0; tell 1 0")
            .due("remembers 0 0 true", false).due("remembers 0 0 false", false)
            .due("remembers 0 7 true", false).due("remembers 0 7 false", false));
    Suite.test(32, same, "it may be by what was told ahead",
        () -> Run.of("fact; scene 0 0 0 0 0; scene 1 0 0 0 0; tell 0 0; tell 1 0")
            .due("remembers 0 1 true", true));
    Suite.test(32, "Returns whether a viewer remembers a fact in an episode, by what was told ahead "
        + "of it.", "told behind it only",
        () -> Run.of("fact; scene 5 0 0 0 0; tell 0 0").due("remembers 0 4 true", false)
            .due("remembers 0 4 false", false));
    Suite.test(32, "Returns whether the viewer does.", "whether it aired or not",
        () -> Run.of("fact; scene 0 0 0 0 0; tell 0 0; air; air").due("remembers 0 1 true", true)
            .due("remembers 0 2 true", false));
  }

  private static void binge() {
    String words = "who binges for 3";
    remembered("false", words, "told in 2", "nnnyyynn");
    Suite.test(32, words, "told in 0 and 4",
        () -> Run.of("fact; scene 0 0 0 0 0; scene 4 0 0 0 0; tell 0 0; tell 1 0")
            .due("remembers 0 3 false", true).due("remembers 0 4 false", false)
            .due("remembers 0 5 false", true).due("remembers 0 7 false", true)
            .does("setCut 1 true").due("remembers 0 5 false", false));
  }

  private static final String RECAP =
      "person false; person false; fact; fact; fact; scene 0 0 0 0 0; scene 4 0 0 0 0;"
      + "scene 4 1 0 0 0; present 1 0 true; present 2 0 true; present 2 1 true;";

  private static void recap() {
    String words = "A recap of an episode needs each fact on which somebody acts in a scene of it, and "
        + "which was told ahead of the episode, but is not remembered in it.";
    Suite.test(33, "Returns how many facts a recap of an episode needs.", "weekly, and as a binge",
        () -> Run.of(RECAP, "tell 0 0; act 1 0 0").due("recap 4 true", 1).due("recap 4 false", 1)
            .does("move 0 1 0").due("recap 4 true", 1).due("recap 4 false", 0)
            .does("move 0 3 0").due("recap 4 true", 0).due("recap 4 false", 0));
    Suite.test(33, words, "acted on twice it counts once",
        () -> Run.of(RECAP, "tell 0 0; act 1 0 0; act 1 0 0; act 2 1 0").due("recap 4 true", 1));
    Suite.test(33, words, "never told", () -> Run.of(RECAP, "act 1 0 0").due("recap 4 true", 0));
    Suite.test(33, words, "told in the episode itself only",
        () -> Run.of(RECAP, "tell 1 0; act 2 0 0").due("recap 4 true", 0).due("recap 4 false", 0));
    Suite.test(33, words, "told ahead, and in the episode itself",
        () -> Run.of(RECAP, "tell 0 0; tell 1 0; act 2 0 0").due("recap 4 true", 1));
    Suite.test(33, words, "told behind the episode only",
        () -> Run.of(RECAP, "tell 0 0; move 0 5 0; act 2 0 0").due("recap 4 true", 0));
    Suite.test(33, words, "told first and last",
        () -> Run.of(RECAP, "tell 0 0; act 1 0 0; scene 3 0 0 0 0; tell 3 0").due("recap 4 true", 0)
            .does("setCut 3 true").due("recap 4 true", 1));
    Suite.test(33, words, "acted on in another episode, or in a cut scene",
        () -> Run.of(RECAP, "tell 0 0; act 1 0 0; move 1 5 0").due("recap 4 true", 0)
            .due("recap 5 true", 1).does("setCut 1 true").due("recap 5 true", 0));
    Suite.test(33, words, "who acts need not know it",
        () -> Run.of(RECAP, "tell 0 0; act 1 0 0").due("unknown", 1).due("recap 4 true", 1));
    Suite.test(33, "Returns the number of facts.", "of the first episode",
        () -> Run.of(RECAP, "tell 0 0; present 0 0 true; act 0 0 0").due("recap 0 true", 0)
            .due("recap 0 false", 0));
  }

  private static void recapAt() {
    String rising = "index: the index, from 0, by rising numbers of facts";
    Suite.test(34, "Returns a fact of a recap.", "the only one",
        () -> Run.of(RECAP, "tell 0 2; act 1 0 2").due("recapAt 4 true 0", 2)
            .fails("recapAt 4 true 1", NONE).fails("recapAt 4 true -1", NONE));
    Suite.test(34, "Returns the number of the fact.", "weekly, and as a binge",
        () -> Run.of(RECAP, "tell 0 0; tell 0 1; act 1 0 1; act 1 0 0; scene 2 0 0 0 0; tell 3 0")
            .due("recapAt 4 true 0", 0).due("recapAt 4 true 1", 1).due("recapAt 4 false 0", 1)
            .fails("recapAt 4 false 1", NONE));
    Suite.test(34, rising, "acted on in another order",
        () -> Run.of(RECAP, "tell 0 2; tell 0 0; act 1 0 2; act 1 0 0").due("recapAt 4 true 0", 0)
            .due("recapAt 4 true 1", 2));
    Suite.test(34, "Throws NoSuchElementException if there are not so many", "as many as the index",
        () -> Run.of(RECAP, Run.each(0, 2, "tell 0 #; act 2 1 #")).due("recapAt 4 false 2", 2)
            .fails("recapAt 4 false 3", NONE).fails("recapAt 0 true 0", NONE));
  }
}
