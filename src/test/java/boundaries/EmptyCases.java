/**
 * Empty: each asking call on a new object, with scenes but all of them cut, and where nothing of the
 * kind asked for is there.
 */
final class EmptyCases {
  private static final String INDEX = "throws IndexOutOfBoundsException";
  private static final String NONE = "throws NoSuchElementException";
  private static final String ARITHMETIC = "throws ArithmeticException";
  private static final String UNSUPPORTED = "throws UnsupportedOperationException";

  /** Of each kind something. */
  private static final String ALL_KINDS =
      "person false; person true; fact; fact;"
      + "scene 0 0 9 0 0; scene 1 0 5 0 1; scene 3 0 1 1 2;"
      + "present 0 0 true; present 0 1 true; present 1 0 true; present 2 0 true; present 2 1 true;"
      + "tell 0 0; tell 1 1; act 2 0 0; act 0 1 1; act 2 1 1;"
      + "cause 0 1; cause 1 2; cause 2 0; setUp 0; pay 0 1; setUp 1; question 0 1 2;"
      + "state 0 0 true false; state 1 0 false false; state 2 0 true false;"
      + "never 0 3 true; say 0 0 3; say 1 0 3; promise 0 1; promise 1 1;";
  private static final String CUT_ALL = "setCut 0 true; setCut 1 true; setCut 2 true;";
  private static final String TAKE_ALL_BACK = "setCut 0 false; setCut 1 false; setCut 2 false;";

  /** People, facts and scenes, and nothing more. */
  private static final String BARE = "person false; fact; scene 0 0 0 0 0; scene 1 0 0 0 0;";

  private EmptyCases() {}

  static void tests() {
    seasonAndWorld();
    causesAndSetUps();
    canonAndViewers();
    boardAndFigures();
    toldOfNewObject();
  }

  /**
   * What a call answers on a new object, on one with each kind of thing, and with all its scenes cut;
   * airing and a strike change none of these.
   */
  private static void asks(int promise, String call, Object fresh, Object full, Object cut) {
    Suite.test(1, "Creates a season without people, facts and scenes, of which nothing aired.",
        "promise " + promise + ": " + call, () -> new Run().due(call, fresh));
    Suite.test(promise, "Cut ones are left out of all that is asked, and so is what is in them",
        call + ": all cut", () -> Run.of(ALL_KINDS).due(call, full).does(CUT_ALL).due(call, cut));
    Suite.test(promise, "what is told of them holds when they are taken back",
        call + ": all taken back",
        () -> Run.of(ALL_KINDS, CUT_ALL, TAKE_ALL_BACK).due(call, full));
    Suite.test(promise, "What aired is canon.", call + ": all aired, and in a strike",
        () -> Run.of(ALL_KINDS, Run.times(8, "air"), "strike true").due(call, full));
  }

  /** What a call answers where nothing of the kind is, though people, facts and scenes are. */
  private static void bare(int promise, String words, String call, Object due) {
    Suite.test(promise, words, call + ": nothing of the kind", () -> Run.of(BARE).due(call, due));
  }

  private static void seasonAndWorld() {
    asks(7, "sceneAt 0", INDEX, 0, INDEX);
    bare(7, "if there is no such place", "sceneAt 2", INDEX);
    asks(10, "goesBack", 0, 2, 0);
    bare(10, "Returns how many times.", "goesBack", 0);
    asks(15, "knows 0 0 2", INDEX, true, false);
    bare(15, "Returns whether the person does", "knows 0 0 1", false);
    asks(16, "since 0 1", INDEX, 1, NONE);
    bare(16, "if the person never does", "since 0 0", NONE);
    asks(17, "unknown", 0, 2, 0);
    bare(17, "Returns the number of acts.", "unknown", 0);
    asks(18, "knowers 0", INDEX, 2, 0);
    bare(18, "Returns the number of people.", "knowers 0", 0);
    Suite.test(18, "Returns the number of people.", "facts, but no people",
        () -> Run.of("fact; scene 0 0 0 0 0; tell 0 0").due("knowers 0", 0));
  }

  private static void causesAndSetUps() {
    asks(20, "wrongCauses", 0, 1, 0);
    bare(20, "Returns the number of causes.", "wrongCauses", 0);
    asks(21, "depth 2", INDEX, 3, 0);
    bare(21, "Returns the depth", "depth 1", 1);
    asks(24, "unpaid", 0, 1, 0);
    bare(24, "Returns the number of set-ups.", "unpaid", 0);
    asks(27, "questionIs 0", INDEX, 'a', '-');
    bare(27, "if there is no such question", "questionIs 0", INDEX);
  }

  private static void canonAndViewers() {
    asks(29, "clashes 0", INDEX, 2, 0);
    bare(29, "Returns the number of pairs.", "clashes 0", 0);
    asks(30, "repair 0", INDEX, 1, 0);
    bare(30, "Returns the number of statements.", "repair 0", 0);
    asks(31, "isSo 0", INDEX, true, NONE);
    bare(31, "if there is no statement on it", "isSo 0", NONE);
    asks(32, "remembers 0 1 true", INDEX, true, false);
    bare(32, "Returns whether the viewer does.", "remembers 0 1 true", false);
    bare(32, "Returns whether the viewer does.", "remembers 0 7 false", false);
    asks(33, "recap 3 true", 0, 2, 0);
    bare(33, "Returns the number of facts.", "recap 1 true", 0);
    asks(34, "recapAt 3 true 1", NONE, 1, NONE);
    bare(34, "if there are not so many", "recapAt 1 true 0", NONE);
    Suite.test(33, "Returns the number of facts.", "acts, but nothing told",
        () -> Run.of(BARE, "present 1 0 true; act 1 0 0").due("recap 1 true", 0));
    Suite.test(33, "Returns the number of facts.", "told, but no acts",
        () -> Run.of(BARE, "scene 2 0 0 0 0; tell 0 0").due("recap 2 true", 0));
  }

  private static void boardAndFigures() {
    asks(40, "wrongLines", 0, 2, 0);
    bare(40, "Returns the number of lines.", "wrongLines", 0);
    asks(41, "shooting 0", 0, 1, 0);
    bare(41, "Returns the number of days.", "shooting 2", 0);
    asks(42, "leaving 1 0", INDEX, 1, 0);
    bare(42, "Returns the number of scenes.", "leaving 0 0", 0);
    asks(44, "broken", 0, 1, 4);
    bare(44, "Returns the number of episodes.", "broken", 0);
    asks(45, "credit 0 0", 0, 1000, 0);
    bare(45, "Returns the credit, 0 without scenes.", "credit 2 0", 0);
    bare(45, "Returns the credit, 0 without scenes.", "credit 0 1", 0);
    asks(46, "checksum", 0L, 13718L, 0L);
    bare(46, "plus its number, plus 7 times the people in it.", "checksum", 1L);
    asks(47, "paidShare", ARITHMETIC, 0.5f, ARITHMETIC);
    bare(47, "Throws ArithmeticException if there are none", "paidShare", ARITHMETIC);
    asks(48, "meanDepth", ARITHMETIC, 2.0, ARITHMETIC);
    bare(48, "divided by their number", "meanDepth", 1.0);
    asks(49, "isSound", true, true, true);
    bare(49, "Returns whether this holds.", "isSound", true);
  }

  private static void first(String call, Object due) {
    Suite.test(1, "Creates a season without people, facts and scenes, of which nothing aired.",
        call + ", told first", () -> new Run().due(call, due));
  }

  private static void toldOfNewObject() {
    first("person false", 0);
    first("fact", 0);
    first("scene 0 0 0 0 0", 0);
    first("move 0 0 0", INDEX);
    first("setCut 0 true", INDEX);
    first("air", 0);
    first("strike false", false);
    first("strike true", false);
    first("present 0 0 true", INDEX);
    first("tell 0 0", INDEX);
    first("keep 0 0 0 true", INDEX);
    first("act 0 0 0", INDEX);
    first("cause 0 1", INDEX);
    first("setUp 0", INDEX);
    first("pay 0 0", INDEX);
    first("question 0 0 0", INDEX);
    first("stay 0 true", INDEX);
    first("state 0 0 true true", INDEX);
    first("propose 0 0 0 0", INDEX);
    first("vote 0 1 true", 1);
    first("vote 0 1 false", 0);
    first("merge 0", UNSUPPORTED);
    first("merge 5", UNSUPPORTED);
    first("never 0 0 true", INDEX);
    first("say 0 0 0", INDEX);
    first("promise 0 0", INDEX);
  }
}
