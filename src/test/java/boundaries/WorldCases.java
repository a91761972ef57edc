/** Sentences on people and what they know: promises 11 to 18. */
final class WorldCases {
  private static final String NONE = "NoSuchElementException";
  private static final String UNSUPPORTED = "UnsupportedOperationException";

  /** Two people, two facts; scenes 0, 1 and 2, one behind the other. */
  private static final String WORLD =
      "person false; person false; fact; fact; scene 0 0 0 0 0; scene 0 1 0 0 0; scene 0 2 0 0 0;";
  private static final String ALL_PRESENT = Run.each(0, 2, "present # 0 true; present # 1 true");

  private WorldCases() {}

  static void tests() {
    present();
    tell();
    tellAgain();
    keep();
    act();
    knows();
    since();
    unknown();
    knowers();
  }

  private static void present() {
    Suite.test(11, "Tells whether a person is present in a scene.", "in this one alone", () -> {
      Run.of(WORLD, "present 1 0 true").due("checksum", 31L * 8 + 2)
          .due("present 0 0 false", false).due("present 2 0 false", false)
          .due("present 1 1 false", false).due("present 1 0 false", true);
    });
    Suite.test(11, "Returns whether the person was.", "told twice",
        () -> Run.of(WORLD).due("present 0 0 true", false).due("present 0 0 true", true)
            .due("checksum", 7L * 961 + 31 + 2));
    Suite.test(11, "Returns whether the person was.", "taken away twice",
        () -> Run.of(WORLD, "present 0 0 true").due("present 0 0 false", true)
            .due("present 0 0 false", false));
    Suite.test(11, "In a scene people are present, and facts are told.", "8 people, 24 facts", () -> {
      Run.of("scene 0 0 0 0 0", Run.times(8, "person true"), Run.times(24, "fact"),
          Run.each(0, 7, "present 0 # true"), Run.each(0, 23, "tell 0 #"))
          .due("checksum", 56L).due("since 0 0", 0).due("since 7 23", 0).due("since 0 23", 0)
          .due("since 7 0", 0);
    });
    String now = "Who learns a fact goes by who is present now, whenever it was told.";
    Suite.test(11, now, "present since it was told",
        () -> Run.of(WORLD, "tell 0 0; present 0 0 true").due("since 0 0", 0).due("knowers 0", 1));
    Suite.test(11, now, "present when it was told, but not now",
        () -> Run.of(WORLD, "present 0 0 true; tell 0 0; present 0 0 false")
            .fails("since 0 0", NONE).due("knowers 0", 0).due("knows 0 0 2", false));
  }

  private static void tell() {
    String words = "Returns how many people learn it there who did not know it ahead of it.";
    Suite.test(12, "Tells a fact in a scene, once more perhaps.", "both",
        () -> Run.of(WORLD, "present 0 0 true").due("tell 0 1", 1).due("tell 0 1", 1)
            .due("since 0 1", 0).fails("since 0 0", NONE));
    Suite.test(12, words, "nobody is there",
        () -> Run.of(WORLD, "present 1 0 true").due("tell 0 0", 0));
    Suite.test(12, words, "who knows it since the scene ahead",
        () -> Run.of(WORLD, ALL_PRESENT, "present 0 1 false; tell 0 0").due("tell 1 0", 1));
    Suite.test(12, words, "who knows it since a scene behind learns it there",
        () -> Run.of(WORLD, ALL_PRESENT, "tell 2 0").due("tell 1 0", 2).due("tell 2 0", 0));
    Suite.test(12, words, "who was told ahead, but it was kept",
        () -> Run.of(WORLD, ALL_PRESENT, "tell 0 0; keep 0 0 0 true").due("tell 1 0", 1));
    Suite.test(12, words, "from whom it is kept there",
        () -> Run.of(WORLD, ALL_PRESENT, "keep 1 0 0 true").due("tell 1 0", 1));
    Suite.test(12, words, "who knows another fact",
        () -> Run.of(WORLD, ALL_PRESENT, "tell 0 0").due("tell 1 1", 2));
    Suite.test(12, words, "in a cut one", () -> Run.of(WORLD, ALL_PRESENT, "setCut 1 true")
        .due("tell 1 0", 0).does("setCut 1 false").due("tell 2 0", 0));
    Suite.test(12, words, "who knows it from a cut one",
        () -> Run.of(WORLD, ALL_PRESENT, "tell 0 0; setCut 0 true").due("tell 1 0", 2));
    Suite.test(12, words, "at the same minute the smaller number is ahead",
        () -> Run.of(WORLD, ALL_PRESENT, "move 1 0 0; tell 0 0").due("tell 1 0", 0)
            .due("tell 0 0", 2));
  }

  private static void tellAgain() {
    Suite.test(12, "Telling it there once more counts the same people again.", "twice more",
        () -> Run.of(WORLD, ALL_PRESENT).due("tell 0 0", 2).due("tell 0 0", 2).due("tell 0 0", 2));
    Suite.test(12, "Telling it there once more counts the same people again.", "one more is there",
        () -> Run.of(WORLD, "present 0 0 true").due("tell 0 0", 1).does("present 0 1 true")
            .due("tell 0 0", 2).does("present 0 0 false").due("tell 0 0", 1));
    Suite.test(12, "the viewer learns it there, too", "though nobody is there",
        () -> Run.of(WORLD).due("remembers 0 1 true", false).due("tell 0 0", 0)
            .due("remembers 0 1 true", true));
    Suite.test(12, "the viewer learns it there, too", "though it is kept from all",
        () -> Run.of(WORLD, ALL_PRESENT, "keep 0 0 0 true; keep 0 1 0 true").due("tell 0 0", 0)
            .due("remembers 0 1 true", true));
  }

  private static void keep() {
    Suite.test(13, "Keeps a fact from a person in a scene, or does not any more.", "both",
        () -> Run.of(WORLD, ALL_PRESENT, "tell 0 0; keep 0 0 0 true").fails("since 0 0", NONE)
            .does("keep 0 0 0 false").due("since 0 0", 0));
    Suite.test(13, "Returns whether it was.", "kept twice",
        () -> Run.of(WORLD).due("keep 0 0 0 true", false).due("keep 0 0 0 true", true));
    Suite.test(13, "Returns whether it was.", "ended twice",
        () -> Run.of(WORLD, "keep 0 0 0 true").due("keep 0 0 0 false", true)
            .due("keep 0 0 0 false", false));
    Suite.test(13, "Returns whether it was.", "not of another scene, person or fact",
        () -> Run.of(WORLD, "keep 1 1 1 true").due("keep 0 1 1 false", false)
            .due("keep 1 0 1 false", false).due("keep 1 1 0 false", false)
            .due("keep 1 1 1 false", true));
    String there = "A fact can be kept from a person in a scene, who does not learn it there then.";
    Suite.test(13, there, "who learns it elsewhere",
        () -> Run.of(WORLD, ALL_PRESENT, "tell 0 0; tell 1 0; keep 0 0 0 true")
            .due("since 0 0", 1).due("since 1 0", 0));
    Suite.test(13, there, "who knew it ahead still knows it",
        () -> Run.of(WORLD, ALL_PRESENT, "tell 0 0; tell 1 0; keep 1 0 0 true")
            .due("since 0 0", 0).due("knows 0 0 1", true).due("act 1 0 0", true));
    Suite.test(13, there, "kept ahead of telling it, and of being present",
        () -> Run.of(WORLD, "keep 0 0 0 true; present 0 0 true").due("tell 0 0", 0)
            .due("knowers 0", 0));
    Suite.test(13, there, "others, and other facts, aside",
        () -> Run.of(WORLD, ALL_PRESENT, "keep 0 0 0 true; tell 0 0; tell 0 1")
            .due("since 1 0", 0).due("since 0 1", 0).due("knowers 0", 1));
    Suite.test(13, there, "kept from who was not present for a while",
        () -> Run.of(WORLD, "present 0 0 true; keep 0 0 0 true; present 0 0 false",
            "present 0 0 true").due("tell 0 0", 0).due("keep 0 0 0 false", true));
    Suite.test(13, there, "kept in a scene that was cut, or moved, for a while",
        () -> Run.of(WORLD, "present 0 0 true; tell 0 0; keep 0 0 0 true; setCut 0 true",
            "move 0 7 0; setCut 0 false").due("knowers 0", 0).due("keep 0 0 0 false", true)
            .due("knowers 0", 1));
  }

  private static void act() {
    String words = "Returns whether the person can know it.";
    String since = "this person can know it if knowing it since this scene, or one ahead of it.";
    Suite.test(14, "Lets a person act on a fact in a scene.", "it is there then",
        () -> Run.of(WORLD, ALL_PRESENT).due("act 1 0 0", false).due("unknown", 1)
            .due("leaving 0 0", 1).due("leaving 1 0", 0));
    Suite.test(14, words, "nobody told it",
        () -> Run.of(WORLD, ALL_PRESENT).due("act 2 0 0", false));
    Suite.test(14, since, "since this scene",
        () -> Run.of(WORLD, ALL_PRESENT, "tell 1 0").due("act 1 0 0", true));
    Suite.test(14, since, "since one ahead of it",
        () -> Run.of(WORLD, ALL_PRESENT, "tell 1 0").due("act 2 0 0", true));
    Suite.test(14, since, "since one behind it",
        () -> Run.of(WORLD, ALL_PRESENT, "tell 1 0").due("act 0 0 0", false));
    Suite.test(14, since, "at one minute, by numbers",
        () -> Run.of(WORLD, ALL_PRESENT, "move 0 0 1; move 2 0 1; tell 1 0")
            .due("act 0 0 0", false).due("act 2 0 0", true));
    Suite.test(14, words, "another person knows it",
        () -> Run.of(WORLD, ALL_PRESENT, "tell 0 0; keep 0 0 0 true").due("act 1 0 0", false)
            .due("act 1 1 0", true));
    Suite.test(14, words, "in a cut one",
        () -> Run.of(WORLD, ALL_PRESENT, "tell 0 0; setCut 1 true").due("act 1 0 0", false)
            .due("unknown", 0).does("setCut 1 false").due("unknown", 0));
    Suite.test(14, "A person who is present acts on a fact in a scene, and says lines",
        "who is not present", () -> Run.of(WORLD, "tell 0 0").fails("act 0 0 0", UNSUPPORTED)
            .fails("say 0 0 0", UNSUPPORTED).does("present 0 0 true").due("act 0 0 0", true)
            .due("say 0 0 0", true));
    Suite.test(14, "if the person is not present", "present in another one only",
        () -> Run.of(WORLD, "present 1 0 true").fails("act 0 0 0", UNSUPPORTED)
            .fails("act 1 1 0", UNSUPPORTED).due("act 1 0 0", false));
    Suite.test(14, "if the person is not present", "not present any more",
        () -> Run.of(WORLD, "present 0 0 true; act 0 0 0; present 0 0 false")
            .fails("act 0 0 0", UNSUPPORTED).due("unknown", 1));
  }

  private static void knows() {
    String on = "Who is present in a scene in which a fact is told knows it from this scene on";
    Suite.test(15, "Returns whether a person knows a fact in a scene.", "told in the second one",
        () -> Run.of(WORLD, "present 1 0 true; tell 1 0").due("knows 0 0 0", false)
            .due("knows 0 0 1", true).due("knows 0 0 2", true).due("knows 1 0 2", false)
            .due("knows 0 1 2", false));
    Suite.test(15, on, "in the last minute of the last episode",
        () -> Run.of(WORLD, "present 2 0 true; move 2 7 59; tell 2 0; move 1 7 59")
            .due("knows 0 0 2", true).due("knows 0 0 1", false));
    Suite.test(15, on, "at one minute, by numbers",
        () -> Run.of(WORLD, "move 0 0 1; move 2 0 1; present 1 0 true; tell 1 0")
            .due("knows 0 0 0", false).due("knows 0 0 1", true).due("knows 0 0 2", true));
    Suite.test(15, on, "where the person is not present",
        () -> Run.of(WORLD, "present 0 0 true; tell 0 0").due("knows 0 0 1", true));
    Suite.test(15, "Returns whether the person does; not in a cut one.", "cut and taken back",
        () -> Run.of(WORLD, "present 0 0 true; tell 0 0; setCut 1 true").due("knows 0 0 1", false)
            .due("knows 0 0 2", true).does("setCut 1 false").due("knows 0 0 1", true));
    Suite.test(15, "Returns whether the person does; not in a cut one.", "where it is told, too",
        () -> Run.of(WORLD, "present 0 0 true; tell 0 0; setCut 0 true").due("knows 0 0 0", false)
            .due("knows 0 0 1", false));
  }

  private static void since() {
    Suite.test(16, "Returns since which scene a person knows a fact.", "the first of three",
        () -> Run.of(WORLD, ALL_PRESENT, "tell 2 0; tell 0 0; tell 1 0").due("since 0 0", 0));
    Suite.test(16, "Returns the number of the scene.", "by the order, not by numbers",
        () -> Run.of(WORLD, ALL_PRESENT, "tell 0 0; tell 1 0; move 0 0 59").due("since 0 0", 1)
            .does("move 0 0 1").due("since 0 0", 0));
    Suite.test(16, "Returns the number of the scene.", "past those where it is kept, or that are cut",
        () -> Run.of(WORLD, ALL_PRESENT, Run.each(0, 2, "tell # 0"), "keep 0 0 0 true; setCut 1 true")
            .due("since 0 0", 2).due("since 1 0", 0));
    Suite.test(16, "if the person never does", "present, but not told",
        () -> Run.of(WORLD, ALL_PRESENT, "tell 0 1").fails("since 0 0", NONE));
    Suite.test(16, "if the person never does", "told, but not present",
        () -> Run.of(WORLD, "present 0 1 true; tell 0 0").fails("since 0 0", NONE)
            .due("since 1 0", 0));
    Suite.test(16, "if the person never does", "kept in the only one",
        () -> Run.of(WORLD, ALL_PRESENT, "tell 0 0; keep 0 0 0 true").fails("since 0 0", NONE));
  }

  private static void unknown() {
    String words = "Returns how many acts there are on what the person cannot know, or in which the "
        + "person is not present any more.";
    Suite.test(17, words, "both of one act count once",
        () -> Run.of(WORLD, "present 0 0 true; act 0 0 0; present 0 0 false").due("unknown", 1));
    Suite.test(17, words, "not present any more, though knowing it",
        () -> Run.of(WORLD, "present 0 0 true; tell 0 0; present 1 0 true; act 1 0 0")
            .due("unknown", 0).does("present 1 0 false").due("unknown", 1)
            .does("present 1 0 true").due("unknown", 0));
    Suite.test(17, words, "told behind it",
        () -> Run.of(WORLD, ALL_PRESENT, "act 0 0 0; tell 1 0").due("unknown", 1)
            .does("tell 0 0").due("unknown", 0));
    Suite.test(17, "Acts are kept each, alike ones, too.", "three alike", () -> {
      Run.of(WORLD, ALL_PRESENT, Run.times(3, "act 0 0 0")).due("unknown", 3);
    });
    Suite.test(17, "both stay if the person is not present any more", "an act and a line", () -> {
      Run.of(WORLD, "present 0 0 true; act 0 0 0; never 0 1 true; say 0 0 1; present 0 0 false")
          .due("unknown", 1).due("wrongLines", 1);
    });
    String gone = "Acts and lines of people who are not present any more count.";
    Suite.test(17, gone, "for what cannot be known",
        () -> Run.of(WORLD, "present 0 0 true; act 0 0 0; present 0 0 false").due("unknown", 1));
    Suite.test(42, gone, "for who leaves",
        () -> Run.of(WORLD, "present 0 0 true; act 0 0 0; present 0 0 false").due("leaving 0 0", 1));
    Suite.test(33, gone, "for a recap",
        () -> Run.of(WORLD, "tell 0 0; move 2 7 0; present 2 0 true; act 2 0 0; present 2 0 false")
            .due("recap 7 true", 1).due("recapAt 7 true 0", 0));
    Suite.test(40, gone, "for wrong lines",
        () -> Run.of(WORLD, "present 0 0 true; say 0 0 1; present 0 0 false; never 0 1 true")
            .due("wrongLines", 1));
  }

  private static void knowers() {
    String words = "Returns how many people know a fact at the end.";
    Suite.test(18, words, "told in the last scene",
        () -> Run.of(WORLD, ALL_PRESENT, "tell 2 0; move 2 7 59").due("knowers 0", 2));
    Suite.test(18, words, "who is told twice counts once",
        () -> Run.of(WORLD, ALL_PRESENT, "tell 0 0; tell 1 0; tell 2 0").due("knowers 0", 2));
    Suite.test(18, words, "one is told here, another one there",
        () -> Run.of(WORLD, "present 0 0 true; present 2 1 true; tell 0 0; tell 2 0")
            .due("knowers 0", 2).due("knowers 1", 0).does("setCut 2 true").due("knowers 0", 1));
    Suite.test(18, words, "nobody is present where it is told",
        () -> Run.of(WORLD, "present 1 0 true; tell 0 0; tell 2 0").due("knowers 0", 0));
  }
}
