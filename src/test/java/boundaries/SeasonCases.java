/** Sentences on the season: promises 1 to 10. */
final class SeasonCases {
  private static final String INDEX = "IndexOutOfBoundsException";
  private static final String STATE = "IllegalStateException";
  private static final String UNSUPPORTED = "UnsupportedOperationException";

  /** Scenes 0, 1 and 2 in episode 0, at minutes 10, 20 and 30. */
  private static final String THREE = "scene 0 10 0 0 0; scene 0 20 0 0 0; scene 0 30 0 0 0;";

  private SeasonCases() {}

  static void tests() {
    added();
    order();
    moved();
    cut();
    cutAndTold();
    aired();
    airedEachCall();
    strike();
    strikeEachCall();
    goesBack();
    asked();
  }

  private static void added() {
    Suite.test(2, "Adds a person.", "one who was not there", () -> {
      new Run().fails("promise 0 0", INDEX).due("person false", 0).due("promise 0 0", -1)
          .fails("promise 1 0", INDEX);
    });
    Suite.test(2, "Returns the number of the person.", "from 0 on, children and others", () -> {
      new Run().due("person true", 0).due("person false", 1).due("person true", 2);
    });
    Suite.test(3, "Adds a fact.", "one that was not there", () -> {
      new Run().fails("knowers 0", INDEX).due("fact", 0).due("knowers 0", 0)
          .fails("knowers 1", INDEX);
    });
    Suite.test(3, "Returns the number of the fact.", "from 0 on",
        () -> new Run().due("fact", 0).due("fact", 1).due("fact", 2));
    Suite.test(4, "Adds a scene.", "one that was not there", () -> {
      new Run().fails("sceneAt 0", INDEX).due("scene 0 0 0 0 0", 0).due("sceneAt 0", 0)
          .fails("sceneAt 1", INDEX);
    });
    Suite.test(4, "Returns the number of the scene.", "from 0 on, whatever the order", () -> {
      new Run().due("scene 7 59 0 0 0", 0).due("scene 0 0 0 0 0", 1).due("scene 3 0 0 0 0", 2)
          .order("1 2 0");
    });
    Suite.test(4, "each in an episode, at a minute, in the story on a day, at a set, by a writer",
        "the greatest of each", () -> {
          Run.of("scene 7 59 999 9 5; scene 7 59 998 8 5").due("credit 7 5", 1000)
              .due("credit 6 5", 0).due("credit 7 4", 0).due("shooting 7", 2).due("goesBack", 1);
        });
    Suite.test(4, "each in an episode, at a minute, in the story on a day, at a set, by a writer",
        "the least of each", () -> {
          Run.of("scene 0 0 1 0 0; scene 0 0 0 0 0").due("credit 0 0", 1000).due("credit 1 0", 0)
              .due("credit 0 1", 0).due("shooting 0", 1).due("goesBack", 1);
        });
    Suite.test(4, "The episodes 0 to 7 have the minutes 0 to 59.", "the last minute and the first",
        () -> Run.of("scene 1 0 0 0 0; scene 0 59 0 0 0; scene 7 0 0 0 0; scene 6 59 0 0 0")
            .order("1 0 3 2"));
  }

  private static void order() {
    Suite.test(7, "Scenes go by episodes, then minutes, then numbers", "episodes ahead of minutes",
        () -> Run.of("scene 1 0 0 0 0; scene 0 59 0 0 0").order("1 0"));
    Suite.test(7, "Scenes go by episodes, then minutes, then numbers", "minutes ahead of numbers",
        () -> Run.of("scene 0 1 0 0 0; scene 0 0 0 0 0").order("1 0"));
    Suite.test(7, "Scenes go by episodes, then minutes, then numbers", "numbers, all else alike",
        () -> Run.of(Run.times(4, "scene 5 5 5 5 5")).order("0 1 2 3"));
    Suite.test(7, "Scenes go by episodes, then minutes, then numbers", "neither days nor sets",
        () -> Run.of("scene 0 0 9 9 5; scene 0 0 0 0 0").order("0 1"));
    Suite.test(7, "one is ahead of another one by this", "one minute, by numbers alone",
        () -> Run.of("scene 0 5 0 0 0; scene 0 5 0 0 0").due("cause 0 1", true)
            .due("cause 1 0", false));
    Suite.test(7, "Returns a scene by the order.", "the first place and the last one",
        () -> Run.of(THREE, "move 0 0 40").due("sceneAt 0", 1).due("sceneAt 2", 0));
    Suite.test(7, "Returns the number of the scene.", "its number, not its place",
        () -> Run.of("scene 1 0 0 0 0; scene 0 0 0 0 0").due("sceneAt 0", 1));
    Suite.test(7, "if there is no such place", "one behind the last one that is not cut",
        () -> Run.of(THREE, "setCut 1 true").due("sceneAt 1", 2).fails("sceneAt 2", INDEX));
  }

  private static void moved() {
    Suite.test(5, "Moves a scene.", "to another episode", () -> {
      Run.of(THREE).due("move 0 7 59", 2).order("1 2 0").due("shooting 7", 1);
    });
    Suite.test(5, "Returns its place in the order then, from 0", "the first place",
        () -> Run.of(THREE).due("move 2 0 9", 0));
    Suite.test(5, "Returns its place in the order then, from 0", "the last place",
        () -> Run.of(THREE).due("move 0 0 31", 2));
    Suite.test(5, "Returns its place in the order then, from 0", "to where it is",
        () -> Run.of(THREE).due("move 1 0 20", 1).order("0 1 2"));
    Suite.test(5, "Returns its place in the order then, from 0", "to the minute of another one",
        () -> Run.of(THREE).due("move 1 0 30", 1).due("move 1 0 10", 1).due("move 0 0 30", 1)
            .due("move 2 0 10", 1).order("1 2 0"));
    Suite.test(5, "Returns its place in the order then, from 0", "place 29 of 30",
        () -> Run.of(Run.times(30, "scene 0 0 0 0 0")).due("move 0 0 1", 29).due("move 0 0 0", 0));
    Suite.test(5, "Returns its place in the order then, from 0", "cut ones have no place",
        () -> Run.of(THREE, "setCut 0 true").due("move 2 0 40", 1));
    Suite.test(5, "-1 if it is cut", "it moves all the same",
        () -> Run.of(THREE, "setCut 0 true").due("move 0 0 40", -1).order("1 2")
            .does("setCut 0 false").order("1 2 0"));
    Suite.test(5, "-1 if it is cut", "taken back it has a place",
        () -> Run.of(THREE, "setCut 2 true; setCut 2 false").due("move 2 0 0", 0));
  }

  private static void cut() {
    Suite.test(6, "Cuts a scene, or takes it back.", "both",
        () -> Run.of(THREE, "setCut 1 true").order("0 2").does("setCut 1 false").order("0 1 2"));
    Suite.test(6, "Cuts a scene, or takes it back.", "the only one",
        () -> Run.of("scene 0 0 0 0 0; setCut 0 true").order("").does("setCut 0 false").order("0"));
    Suite.test(6, "Returns whether it was.", "cut twice", () -> {
      Run.of(THREE).due("setCut 1 true", false).due("setCut 1 true", true).order("0 2");
    });
    Suite.test(6, "Returns whether it was.", "taken back twice", () -> {
      Run.of(THREE, "setCut 1 true").due("setCut 1 false", true).due("setCut 1 false", false)
          .order("0 1 2");
    });
    Suite.test(6, "Returns whether it was.", "one that was never cut",
        () -> Run.of(THREE).due("setCut 2 false", false).due("setCut 0 true", false)
            .due("setCut 1 false", false));
  }

  private static void cutAndTold() {
    String words = "what is told of them holds when they are taken back";
    Suite.test(6, words, "told while it is cut", () -> {
      Run.of("person true; fact; fact", THREE, "setCut 1 true").due("present 1 0 true", false)
          .due("tell 1 0", 0).due("keep 1 0 1 true", false).due("setUp 1", 0).due("pay 0 2", false)
          .due("question 1 0 7", 0).due("state 1 0 false true", 0).due("cause 1 2", true)
          .due("say 1 0 5", true).due("act 1 0 0", false).does("never 0 5 true")
          .does("setCut 1 false").due("since 0 0", 1).due("paidShare", 1.0f)
          .due("questionIs 0", 'w').due("isSo 0", false).due("depth 2", 2).due("wrongLines", 1)
          .due("unknown", 0).due("knows 0 0 1", true).due("keep 1 0 1 false", true);
    });
    String until = "until then nobody learns, knows or is paid anything there";
    Suite.test(6, until, "nobody learns",
        () -> Run.of("person true; fact", THREE, "present 1 0 true; tell 1 0; setCut 1 true")
            .due("tell 1 0", 0).due("knowers 0", 0).fails("since 0 0", "NoSuchElementException")
            .due("knows 0 0 2", false));
    Suite.test(6, until, "nobody knows",
        () -> Run.of("person true; fact", THREE, "present 0 0 true; tell 0 0; present 1 0 true",
            "setCut 1 true").due("knows 0 0 1", false).due("knows 0 0 2", true)
            .due("act 1 0 0", false));
    Suite.test(6, until, "nothing is paid",
        () -> Run.of(THREE, "setUp 0; setCut 1 true").due("pay 0 1", false).due("unpaid", 1)
            .due("paidShare", 0.0f).does("setCut 1 false").due("unpaid", 0));
    Suite.test(6, until, "nothing set up there is paid",
        () -> Run.of(THREE, "setUp 0; setCut 0 true").due("pay 0 1", false).due("unpaid", 0)
            .does("setCut 0 false").due("unpaid", 0).due("paidShare", 1.0f));
  }

  private static void aired() {
    Suite.test(8, "Airs the next episode.", "without scenes", () -> {
      new Run().due("air", 0).fails("scene 0 0 0 0 0", STATE).due("scene 1 0 0 0 0", 0);
    });
    Suite.test(8, "Returns its number.", "each of the 8", () -> {
      new Run().due("air", 0).due("air", 1).due("air", 2).due("air", 3).due("air", 4)
          .due("air", 5).due("air", 6).due("air", 7);
    });
    Suite.test(8, "episodes air one behind the other, from 0 on", "the next one did not air", () -> {
      Run.of("air; air; air").fails("scene 2 59 0 0 0", STATE).due("scene 3 0 0 0 0", 0)
          .does("air").fails("move 0 4 0", STATE).due("scene 4 0 0 0 0", 1);
    });
    Suite.test(8, "What aired is canon.", "answers do not change by airing", () -> {
      Run.of("person false; fact", THREE, "present 0 0 true; tell 0 0; act 0 0 0; air")
          .order("0 1 2").due("since 0 0", 0).due("unknown", 0)
          .due("credit 0 0", 1000).due("shooting 0", 1);
    });
    Suite.test(8, "Airs the next episode.", "votes and moves stay", () -> {
      Run.of(THREE, "scene 1 0 0 0 0; vote 0 1 true; vote 2 1 true; propose 1 3 7 0; air")
          .due("vote 3 1 true", 3).due("propose 1 0 7 1", 2).due("merge 1", 1).order("0 1 2 3");
    });
  }

  /** Whatever is told of a scene, of an episode that aired, is refused; of the next one it is not. */
  private static void airedEachCall() {
    String words = "nothing of a scene of an episode that aired is told, moved or cut any more";
    String world = "person false; fact; scene 0 59 0 0 0; scene 1 0 0 0 0; present 0 0 true;"
        + "present 1 0 true; setUp 0; pay 0 0; setUp 0; air;";
    String[] calls = {"5 move # 7 0", "6 setCut # true", "11 present # 0 false", "12 tell # 0",
        "13 keep # 0 0 true", "14 act # 0 0", "22 setUp #", "23 pay 1 #", "25 question # 0 7",
        "28 state # 0 true true", "39 say # 0 0"};
    for (String line : calls) {
      int promise = Integer.parseInt(line.split(" ")[0]);
      String call = line.substring(line.indexOf(' ') + 1);
      Suite.test(promise, words, call, () -> {
        Run run = Run.of(world).fails(call.replace("#", "0"), STATE);
        run.does(call.replace("#", "1"));
      });
    }
    Suite.test(5, words, "move into it",
        () -> Run.of(world).fails("move 1 0 59", STATE).due("move 1 1 59", 1).order("0 1"));
    Suite.test(19, words, "a cause of it is told of the second one",
        () -> Run.of(world).fails("cause 1 0", STATE).due("cause 0 1", true));
    Suite.test(5, words, "a cut one of it",
        () -> Run.of("scene 0 0 0 0 0; setCut 0 true; air").fails("move 0 1 0", STATE)
            .fails("setCut 0 false", STATE).fails("sceneAt 0", INDEX));
  }

  private static void strike() {
    Suite.test(9, "Begins a strike, or ends it.", "both", () -> {
      Run.of("strike true").fails("fact", STATE).does("strike false").due("fact", 0);
    });
    Suite.test(9, "Returns whether it was.", "begun twice",
        () -> new Run().due("strike true", false).due("strike true", true).fails("fact", STATE));
    Suite.test(9, "Returns whether it was.", "ended twice",
        () -> Run.of("strike true").due("strike false", true).due("strike false", false)
            .due("fact", 0));
    Suite.test(9, "Returns whether it was.", "none was", () -> new Run().due("strike false", false));
    Suite.test(9, "In a strike, nothing is told but airing, and its end.", "airing and its end",
        () -> Run.of("strike true").due("air", 0).due("strike false", true).due("air", 1));
    Suite.test(9, "Begins a strike, or ends it.", "what was told ahead of it holds", () -> {
      Run.of("person true; fact", THREE, "present 0 0 true; vote 0 1 true; vote 2 1 true",
          "propose 1 0 7 0; strike true; strike false").due("vote 3 1 true", 3)
          .due("propose 1 1 7 0", 2).due("merge 1", 2).order("2 0 1").due("tell 0 0", 1);
    });
  }

  private static void strikeEachCall() {
    String world = "person false; fact; scene 0 0 0 0 0; scene 1 0 0 0 0; present 0 0 true;"
        + "setUp 0; question 0 0 7; propose 0 0 0 5;";
    String[] calls = {"2 person true", "3 fact", "4 scene 0 0 0 0 0", "5 move 0 0 5",
        "6 setCut 0 true", "11 present 0 0 false", "12 tell 0 0", "13 keep 0 0 0 true",
        "14 act 0 0 0", "19 cause 0 1", "22 setUp 0", "23 pay 0 1", "25 question 0 0 0",
        "26 stay 0 true", "28 state 0 0 true true", "35 propose 0 0 0 0", "36 vote 0 1 true",
        "37 merge 0", "38 never 0 0 true", "39 say 0 0 0", "43 promise 0 0"};
    for (String line : calls) {
      int promise = Integer.parseInt(line.split(" ")[0]);
      String call = line.substring(line.indexOf(' ') + 1);
      Suite.test(promise, "In a strike, nothing is told but airing, and its end.", call, () -> {
        Run.of(world, "strike true").fails(call, STATE).does("strike false").does(call);
      });
    }
    Suite.test(37, "In a strike, nothing is told but airing, and its end.", "the branch stays",
        () -> Run.of(world, "strike true").fails("merge 0", STATE).fails("merge 1", STATE)
            .does("strike false").due("merge 0", 1).fails("merge 0", UNSUPPORTED));
  }

  private static void goesBack() {
    String words = "Returns how many times the day of the story goes back from a scene to the next "
        + "one by the order.";
    Suite.test(10, words, "one scene", () -> Run.of("scene 0 0 999 0 0").due("goesBack", 0));
    Suite.test(10, words, "the same day",
        () -> Run.of("scene 0 0 5 0 0; scene 0 1 5 0 0").due("goesBack", 0));
    Suite.test(10, words, "one day back",
        () -> Run.of("scene 0 0 5 0 0; scene 0 1 4 0 0").due("goesBack", 1));
    Suite.test(10, words, "one day on",
        () -> Run.of("scene 0 0 4 0 0; scene 0 1 5 0 0").due("goesBack", 0));
    Suite.test(10, words, "from 999 to 0, from the last minute to the next episode",
        () -> Run.of("scene 0 59 999 0 0; scene 1 0 0 0 0").due("goesBack", 1));
    Suite.test(10, words, "by the order, not by numbers",
        () -> Run.of("scene 1 0 4 0 0; scene 0 0 5 0 0; scene 2 0 9 0 0").due("goesBack", 1)
            .does("move 0 0 0").due("goesBack", 0));
    Suite.test(10, words, "back by two days in two steps",
        () -> Run.of("scene 0 0 5 0 0; scene 0 1 4 0 0; scene 0 2 3 0 0").due("goesBack", 2));
    Suite.test(10, words, "as all 8 aired",
        () -> Run.of("scene 0 0 5 0 0; scene 7 0 4 0 0", Run.times(8, "air")).due("goesBack", 1));
    Suite.test(10, words, "past a cut one",
        () -> Run.of("scene 0 0 5 0 0; scene 0 1 3 0 0; scene 0 2 4 0 0").due("goesBack", 1)
            .does("setCut 1 true").due("goesBack", 1).does("setCut 0 true").due("goesBack", 0));
    Suite.test(10, words, "past a cut one it may not go back",
        () -> Run.of("scene 0 0 3 0 0; scene 0 1 5 0 0; scene 0 2 4 0 0; setCut 1 true")
            .due("goesBack", 0));
  }

  private static void asked() {
    Suite.test(1, "Scenes, facts, moves, votes and airings come by calls", "nothing comes otherwise",
        () -> Run.of("scene 0 0 0 0 0; fact").order("0").due("knowers 0", 0)
            .fails("merge 0", UNSUPPORTED).due("air", 0));
    Suite.test(1, "knowledge, clashes, repairs, recaps and credits are asked",
        "asked twice they are the same", () -> {
          Run run = Run.of("person false; fact; scene 0 0 0 0 0; scene 2 0 0 0 0; present 0 0 true",
              "present 1 0 true; tell 0 0; act 1 0 0; state 0 0 true false; state 1 0 false false");
          for (int i = 0; i < 2; i++) {
            run.due("knowers 0", 1).due("since 0 0", 0).due("clashes 0", 1).due("repair 0", 1)
                .due("recap 2 true", 1).due("recapAt 2 true 0", 0).due("credit 0 0", 1000);
          }
        });
  }
}
