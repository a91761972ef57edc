/** Full: each limit reached, the next call refused, and what has room again. */
final class FullCases {
  private static final String INDEX = "IndexOutOfBoundsException";
  private static final String STATE = "IllegalStateException";
  private static final String UNSUPPORTED = "UnsupportedOperationException";

  /** One person, present in the only scene, and one fact. */
  private static final String ONE = "person false; fact; scene 0 0 0 0 0; present 0 0 true;";

  private FullCases() {}

  static void tests() {
    people();
    facts();
    scenes();
    episodes();
    acts();
    causes();
    setUps();
    questions();
    statements();
    moves();
    lines();
    allAtOnce();
  }

  /** Makes a call as often as it is allowed, which answers by rising numbers; then once more. */
  private static Run fill(Run run, String call, int first, int limit, String exception) {
    for (int number = first; number < limit; number++) {
      run.due(call, number);
    }
    return run.fails(call, exception);
  }

  private static void people() {
    String words = "Throws IllegalStateException if there are 8";
    Suite.test(2, words, "a ninth one", () -> {
      fill(new Run(), "person false", 0, 8, STATE).fails("person true", STATE)
          .due("promise 7 0", -1).fails("promise 8 0", INDEX);
    });
    Suite.test(2, "At most 8 people", "the eighth one is like others", () -> {
      Run.of("fact; scene 0 0 0 0 0", Run.times(8, "person false"))
          .due("present 0 7 true", false).due("tell 0 0", 1).due("since 7 0", 0)
          .due("never 7 99 true", false).due("say 0 7 99", false).due("knowers 0", 1);
    });
    Suite.test(2, words, "refused ones aside, 8 can be added", () -> {
      fill(Run.of("strike true").fails("person true", STATE).does("strike false"),
          "person true", 0, 8, STATE);
    });
  }

  private static void facts() {
    String words = "Throws IllegalStateException if there are 24";
    Suite.test(3, words, "a 25th one", () -> {
      fill(new Run(), "fact", 0, 24, STATE).fails("fact", STATE)
          .due("knowers 23", 0).fails("knowers 24", INDEX);
    });
    Suite.test(3, "at most 24 facts", "the 24th one is like others", () -> {
      Run.of("person false; scene 0 0 0 0 0; scene 1 0 0 0 0; present 0 0 true; present 1 0 true",
          Run.times(24, "fact")).due("tell 0 23", 1).due("since 0 23", 0).due("knowers 22", 0)
          .due("keep 0 0 23 true", false).due("knowers 23", 0).due("keep 0 0 23 false", true)
          .due("remembers 23 1 true", true).due("act 1 0 23", true).due("recap 1 true", 0)
          .due("state 1 23 false true", 0).due("isSo 23", false);
    });
    Suite.test(3, words, "refused ones aside, 24 can be added", () -> {
      fill(Run.of("strike true").fails("fact", STATE).does("strike false"), "fact", 0, 24, STATE);
    });
  }

  private static void scenes() {
    String words = "Throws IllegalStateException if there are 30";
    Suite.test(4, words, "a 31st one", () -> {
      fill(new Run(), "scene 0 0 0 0 0", 0, 30, STATE).fails("scene 7 59 999 9 5", STATE)
          .due("sceneAt 29", 29).fails("sceneAt 30", INDEX);
    });
    Suite.test(4, words, "cut ones are there, too", () -> {
      Run.of(Run.times(30, "scene 1 0 0 0 0"), Run.each(0, 29, "setCut # true"))
          .fails("scene 1 0 0 0 0", STATE).fails("sceneAt 0", INDEX);
    });
    Suite.test(4, words, "aired ones are there, too", () -> {
      Run.of(Run.times(30, "scene 0 0 0 0 0"), "air").fails("scene 1 0 0 0 0", STATE);
    });
    Suite.test(4, "At most 30 scenes are numbered from 0", "the 30th one is like others", () -> {
      Run.of("person true; fact", Run.times(30, "scene 0 0 0 0 0")).due("move 29 0 1", 29)
          .due("present 29 0 true", false).due("tell 29 0", 1).due("since 0 0", 29)
          .due("cause 28 29", true).due("depth 29", 2).due("setCut 29 true", false)
          .due("depth 29", 0).fails("depth 30", INDEX);
    });
    Suite.test(4, words, "refused ones aside, 30 can be added", () -> {
      fill(Run.of("air").fails("scene 0 0 0 0 0", STATE).fails("scene 8 0 0 0 0",
          "IllegalArgumentException"), "scene 1 0 0 0 0", 0, 30, STATE);
    });
  }

  private static void episodes() {
    Suite.test(8, "Throws IllegalStateException if all 8 aired", "a ninth one", () -> {
      fill(new Run(), "air", 0, 8, STATE).fails("air", STATE);
    });
    Suite.test(8, "Throws IllegalStateException if all 8 aired", "a ninth one in a strike", () -> {
      fill(Run.of("strike true"), "air", 0, 8, STATE).due("strike false", true);
    });
    Suite.test(8, "Throws IllegalStateException if all 8 aired", "nothing can be told then", () -> {
      Run.of("person false; fact; scene 7 59 0 0 0; question 0 0 7", Run.times(8, "air"))
          .fails("scene 7 59 0 0 0", STATE).fails("move 0 7 0", STATE)
          .fails("setCut 0 true", STATE).fails("tell 0 0", STATE).due("questionIs 0", 'l')
          .due("person false", 1).due("fact", 1).due("stay 0 true", false)
          .due("promise 0 7", -1).due("never 0 0 true", false);
    });
  }

  private static void acts() {
    String words = "or there are 60 acts";
    Suite.test(14, words, "a 61st one", () -> {
      Run.of(ONE, Run.times(59, "act 0 0 0")).due("act 0 0 0", false).due("unknown", 60)
          .fails("act 0 0 0", UNSUPPORTED).due("unknown", 60);
    });
    Suite.test(14, words, "over all scenes, people and facts", () -> {
      Run.of(ONE, "person true; fact; scene 7 0 0 0 0; present 1 1 true",
          Run.times(30, "act 0 0 0; act 1 1 1")).fails("act 0 0 0", UNSUPPORTED)
          .fails("act 0 0 1", UNSUPPORTED).fails("act 1 1 0", UNSUPPORTED);
    });
    Suite.test(14, words, "those in cut scenes are there, too", () -> {
      Run.of(ONE, "scene 1 0 0 0 0; present 1 0 true", Run.times(60, "act 0 0 0"),
          "setCut 0 true").due("unknown", 0).fails("act 1 0 0", UNSUPPORTED);
    });
    Suite.test(14, words, "those of who is not present any more are there, too", () -> {
      Run.of(ONE, "person false; present 0 1 true", Run.times(60, "act 0 0 0"),
          "present 0 0 false").fails("act 0 1 0", UNSUPPORTED);
    });
    Suite.test(14, words, "refused ones aside, 60 can be added", () -> {
      Run.of(ONE, "person false").fails("act 0 1 0", UNSUPPORTED).fails("act 0 2 0", INDEX)
          .does(Run.times(60, "act 0 0 0")).fails("act 0 0 0", UNSUPPORTED);
    });
  }

  /** 60 causes, none of them from or to scene 9. */
  private static String sixtyCauses() {
    StringBuilder all = new StringBuilder(Run.times(10, "scene 0 0 0 0 0"));
    for (int scene = 0; scene < 9; scene++) {
      all.append(Run.each(scene + 1, 8, "cause " + scene + " #"));
    }
    return all.append(Run.each(0, 7, "cause 8 #")).append(Run.each(0, 6, "cause 7 #"))
        .append(Run.each(0, 5, "cause 6 #")).append(Run.each(0, 2, "cause 5 #")).toString();
  }

  private static void causes() {
    String words = "or there are 60 causes";
    Suite.test(19, words, "a 61st one", () -> {
      Run.of(sixtyCauses()).due("wrongCauses", 24).fails("cause 8 9", UNSUPPORTED)
          .fails("cause 9 8", UNSUPPORTED).due("wrongCauses", 24).due("depth 9", 1);
    });
    Suite.test(19, words, "the sixtieth one", () -> {
      Run.of(sixtyCauses().replaceFirst("cause 5 2; $", "")).due("wrongCauses", 23)
          .due("cause 9 8", false).due("wrongCauses", 24).fails("cause 5 2", UNSUPPORTED);
    });
    Suite.test(19, words, "those of cut scenes are there, too", () -> {
      Run.of(sixtyCauses(), Run.each(0, 8, "setCut # true"), "scene 0 0 0 0 0")
          .due("wrongCauses", 0).fails("cause 9 10", UNSUPPORTED);
    });
    Suite.test(19, words, "refused ones aside, 60 can be made", () -> {
      Run.of("scene 0 0 0 0 0; scene 0 0 0 0 0; cause 0 1").fails("cause 0 1", UNSUPPORTED)
          .fails("cause 0 0", "IllegalArgumentException").fails("cause 0 2", INDEX)
          .does(sixtyCauses().replace("cause 0 1; ", "").replaceFirst("(scene 0 0 0 0 0; ){2}", ""))
          .fails("cause 8 9", UNSUPPORTED);
    });
  }

  private static void setUps() {
    Suite.test(22, "Throws UnsupportedOperationException if there are 20", "a 21st one", () -> {
      fill(Run.of(ONE), "setUp 0", 0, 20, UNSUPPORTED).due("unpaid", 20)
          .due("pay 19 0", false).fails("pay 20 0", INDEX);
    });
    Suite.test(22, "Throws UnsupportedOperationException if there are 20", "paid or cut ones", () -> {
      Run.of(ONE, "scene 1 0 0 0 0", Run.times(20, "setUp 0"), Run.each(0, 19, "pay # 1"))
          .due("unpaid", 0).fails("setUp 1", UNSUPPORTED).does("setCut 0 true")
          .fails("setUp 1", UNSUPPORTED);
    });
    Suite.test(22, "Throws UnsupportedOperationException if there are 20", "refused ones aside", () -> {
      fill(Run.of("scene 0 0 0 0 0; scene 1 0 0 0 0; air").fails("setUp 0", STATE)
          .fails("setUp 2", INDEX), "setUp 1", 0, 20, UNSUPPORTED);
    });
  }

  private static void questions() {
    Suite.test(25, "Throws UnsupportedOperationException if there are 20", "a 21st one", () -> {
      fill(Run.of(ONE), "question 0 0 7", 0, 20, UNSUPPORTED)
          .due("questionIs 19", 'w').fails("questionIs 20", INDEX);
    });
    Suite.test(25, "Throws UnsupportedOperationException if there are 20", "answered or cut ones",
        () -> {
          Run.of(ONE, "scene 1 0 0 0 0; tell 1 0", Run.times(20, "question 0 0 7"))
              .due("questionIs 19", 'a').fails("question 1 0 7", UNSUPPORTED)
              .does("setCut 0 true").fails("question 1 0 7", UNSUPPORTED);
        });
    Suite.test(25, "Throws UnsupportedOperationException if there are 20", "refused ones aside",
        () -> {
          fill(Run.of(ONE).fails("question 0 0 8", "IllegalArgumentException")
              .fails("question 0 1 0", INDEX), "question 0 0 0", 0, 20, UNSUPPORTED);
        });
  }

  private static void statements() {
    String words = "Throws UnsupportedOperationException if there are 60";
    Suite.test(28, words, "a 61st one", () -> {
      fill(Run.of(ONE), "state 0 0 true false", 0, 60, UNSUPPORTED)
          .fails("state 0 0 false true", UNSUPPORTED).due("isSo 0", true).due("clashes 0", 0);
    });
    Suite.test(28, words, "over all facts and scenes", () -> {
      fill(Run.of(ONE, "fact; scene 1 0 0 0 0", Run.times(30, "state 1 1 false false")),
          "state 0 0 true false", 30, 60, UNSUPPORTED).fails("state 1 1 true false", UNSUPPORTED);
    });
    Suite.test(28, words, "those taken away, or cut, are there, too", () -> {
      Run.of(ONE, "scene 1 0 0 0 0", Run.times(60, "state 0 0 true true"))
          .fails("state 1 0 false false", UNSUPPORTED).does("setCut 0 true")
          .fails("state 1 0 false false", UNSUPPORTED).fails("isSo 0", "NoSuchElementException");
    });
    Suite.test(28, words, "refused ones aside", () -> {
      fill(Run.of(ONE).fails("state 0 1 true true", INDEX).fails("state 1 0 true true", INDEX),
          "state 0 0 false true", 0, 60, UNSUPPORTED);
    });
  }

  private static void moves() {
    String words = "Throws IllegalStateException if there are 12";
    Suite.test(35, words, "a 13th one", () -> {
      fill(Run.of(ONE), "propose 0 0 7 59", 1, 13, STATE).due("merge 0", 12);
    });
    for (int writer = 0; writer < 6; writer++) {
      String call = "propose " + writer + " 0 0 0";
      Suite.test(35, words, "writer " + writer + " has a branch", () -> {
        fill(Run.of(ONE, Run.each(0, 5, Run.times(11, "propose # 0 1 1"))), call, 12, 13, STATE);
      });
    }
    Suite.test(37, "the branch is empty then", "12 moves have room again", () -> {
      Run run = fill(Run.of(ONE), "propose 0 0 0 5", 1, 13, STATE).due("merge 0", 12);
      fill(run, "propose 0 0 0 6", 1, 13, STATE).due("merge 0", 12).fails("merge 0", UNSUPPORTED);
    });
    Suite.test(37, "the branch is empty then", "12 moves have room again by votes", () -> {
      Run run = fill(Run.of(ONE, "vote 0 5 true; vote 1 5 true; vote 4 5 true"),
          "propose 5 0 0 5", 1, 13, STATE).due("merge 5", 12);
      fill(run, "propose 5 0 0 6", 1, 13, STATE).fails("merge 5", UNSUPPORTED)
          .fails("propose 5 0 0 6", STATE);
    });
    Suite.test(37, "the branch is empty then", "of moves that were not done, too", () -> {
      Run run = fill(Run.of(ONE, "setCut 0 true"), "propose 0 0 0 5", 1, 13, STATE)
          .due("merge 0", 0);
      fill(run, "propose 0 0 0 5", 1, 13, STATE);
    });
    Suite.test(37, "the branch is empty then", "others keep theirs", () -> {
      Run run = Run.of(ONE, Run.times(12, "propose 0 0 0 5; propose 1 0 0 6"), "merge 0");
      run.fails("propose 1 0 0 6", STATE).due("propose 0 0 0 5", 1);
    });
    Suite.test(37, "Throws UnsupportedOperationException if it has not votes enough",
        "a merge that is refused makes no room", () -> {
          Run.of(ONE, Run.times(12, "propose 3 0 0 5")).fails("merge 3", UNSUPPORTED)
              .fails("propose 3 0 0 5", STATE);
        });
  }

  private static void lines() {
    String words = "or there are 90 lines";
    Suite.test(39, words, "a 91st one", () -> {
      Run.of(ONE, "never 0 9 true", Run.times(89, "say 0 0 9")).due("say 0 0 9", false)
          .due("wrongLines", 90).fails("say 0 0 9", UNSUPPORTED).fails("say 0 0 8", UNSUPPORTED)
          .due("wrongLines", 90);
    });
    Suite.test(39, words, "over all scenes, people and words", () -> {
      Run.of(ONE, "person true; scene 7 0 0 0 0; present 1 1 true",
          Run.times(45, "say 0 0 0; say 1 1 99")).fails("say 0 0 1", UNSUPPORTED)
          .fails("say 1 1 98", UNSUPPORTED);
    });
    Suite.test(39, words, "those in cut scenes are there, too", () -> {
      Run.of(ONE, "scene 1 0 0 0 0; present 1 0 true", Run.times(90, "say 0 0 0"),
          "setCut 0 true").fails("say 1 0 0", UNSUPPORTED);
    });
    Suite.test(39, words, "refused ones aside, 90 can be added", () -> {
      Run.of(ONE, "person false").fails("say 0 1 0", UNSUPPORTED)
          .fails("say 0 0 100", "IllegalArgumentException").does(Run.times(90, "say 0 0 0"))
          .fails("say 0 0 0", UNSUPPORTED);
    });
  }

  /** In 446 calls, so that there is room to ask. */
  private static String everything() {
    StringBuilder all = new StringBuilder(Run.times(8, "person true") + Run.times(24, "fact"));
    all.append(sixtyCauses()).append(Run.times(20, "scene 0 0 0 0 0"));
    all.append("present 0 0 true; ").append(Run.times(60, "act 0 0 23"));
    all.append(Run.times(20, "setUp 0")).append(Run.times(20, "question 0 23 7"));
    all.append(Run.times(30, "state 0 23 true false; state 0 23 false false"));
    all.append("never 0 99 true; ").append(Run.times(90, "say 0 0 99"));
    return all + Run.each(0, 5, Run.times(12, "propose # 0 0 0"));
  }

  private static void allAtOnce() {
    Suite.test(1, "A method that throws an exception changes nothing", "all limits at once", () -> {
      Run.of(everything()).fails("person false", STATE).fails("fact", STATE)
          .fails("scene 1 0 0 0 0", STATE).fails("act 0 0 0", UNSUPPORTED)
          .fails("cause 8 9", UNSUPPORTED).fails("setUp 1", UNSUPPORTED)
          .fails("question 1 0 0", UNSUPPORTED).fails("state 1 0 true true", UNSUPPORTED)
          .fails("propose 0 0 0 0", STATE).fails("propose 5 0 0 0", STATE)
          .fails("say 0 0 0", UNSUPPORTED)
          .due("unknown", 60).due("wrongCauses", 24).due("unpaid", 20).due("questionIs 19", 'w')
          .due("clashes 23", 900).due("repair 23", 30).due("wrongLines", 90)
          .due("shooting 0", 10).due("leaving 0 0", 1).due("credit 0 0", 1000)
          .due("meanDepth", 66.0 / 30.0).due("isSound", true)
          .due("depth 8", 9).due("depth 9", 1).due("sceneAt 29", 29).due("merge 0", 12);
    });
  }
}
