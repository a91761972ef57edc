import java.math.BigInteger;

/** A wrap-around, and wherever else a number may grow: each of them as great as it can be. */
final class WrapCases {
  private static final String STEPS =
      "Returns 0 at first, then for each scene 31 times itself plus its number, "
      + "plus 7 times the people in it.";

  private WrapCases() {}

  static void tests() {
    checksum();
    counts();
    figures();
  }

  /** Of scenes by the order, with so many people in each; a long holds the lowest 64 bits of it. */
  private static BigInteger sumOf(int[] scenes, int people) {
    BigInteger sum = BigInteger.ZERO;
    for (int scene : scenes) {
      sum = sum.multiply(BigInteger.valueOf(31)).add(BigInteger.valueOf(scene + 7L * people));
    }
    return sum;
  }

  private static int[] numbers(int count, boolean isBack) {
    int[] numbers = new int[count];
    for (int i = 0; i < count; i++) {
      numbers[i] = isBack ? count - 1 - i : i;
    }
    return numbers;
  }

  private static String fullScenes(int count, boolean isBack) {
    StringBuilder all = new StringBuilder(Run.times(8, "person false"));
    for (int i = 0; i < count; i++) {
      all.append("scene 0 ").append(isBack ? 59 - i : i).append(" 0 0 0; ");
      for (int person = 0; person < 8; person++) {
        all.append("present ").append(i).append(' ').append(person).append(" true; ");
      }
    }
    return all.toString();
  }

  private static void checksum() {
    checksumOf("30 scenes with 8 people, beyond a long", 30, false, true);
    checksumOf("30 scenes backwards, beyond a long", 30, true, true);
    checksumOf("12 scenes, beyond an int, not beyond a long", 12, false, false);
    checksumOf("7 scenes, beyond an int", 7, true, false);
    Suite.test(46, STEPS, "30 scenes without people", () -> {
      BigInteger sum = sumOf(numbers(30, false), 0);
      Run.of(Run.times(30, "scene 3 3 3 3 3")).due("checksum", sum.longValue());
    });
    Suite.test(46, STEPS, "a sum below 0", () -> {
      int negatives = 0;
      for (int count = 13; count <= 30; count++) {
        long due = sumOf(numbers(count, false), 8).longValue();
        Run.of(fullScenes(count, false)).due("checksum", due);
        negatives += due < 0 ? 1 : 0;
      }
      Check.same("sums below 0 are among them", negatives > 0, true);
    });
    Suite.test(46, STEPS, "30 scenes, the first one cut", () -> {
      int[] rest = new int[29];
      for (int i = 0; i < rest.length; i++) {
        rest[i] = i + 1;
      }
      Run.of(fullScenes(30, false), "setCut 0 true").due("checksum", sumOf(rest, 8).longValue());
    });
  }

  private static void checksumOf(String what, int count, boolean isBack, boolean isBeyond) {
    Suite.test(46, STEPS, what, () -> {
      BigInteger sum = sumOf(numbers(count, isBack), 8);
      Check.same("it is beyond a long", sum.bitLength() > 63, isBeyond);
      Check.same("it is beyond an int", sum.bitLength() > 31, true);
      Run.of(fullScenes(count, isBack)).due("checksum", sum.longValue());
    });
  }

  private static String chain() {
    return Run.times(30, "scene 0 0 0 0 0") + row(0, 28);
  }

  /** Each scene from this one to that one is the cause of the one behind it. */
  private static String row(int from, int to) {
    StringBuilder all = new StringBuilder();
    for (int scene = from; scene <= to; scene++) {
      all.append("cause ").append(scene).append(' ').append(scene + 1).append("; ");
    }
    return all.toString();
  }

  private static void counts() {
    Suite.test(10, "Returns how many times.", "29 times back over 30 scenes", () -> {
      StringBuilder all = new StringBuilder();
      for (int i = 0; i < 30; i++) {
        all.append("scene 0 ").append(i).append(' ').append(999 - i).append(" 0 0; ");
      }
      Run.of(all.toString()).due("goesBack", 29);
    });
    Suite.test(21, "The depth of a scene is the greatest number of scenes", "a row of 30",
        () -> Run.of(chain()).due("depth 29", 30).due("depth 0", 1).due("depth 15", 16));
    Suite.test(21, "The depth of a scene is the greatest number of scenes", "a row of 30 backwards",
        () -> Run.of(chain(), Run.each(0, 29, "move # 7 59")).due("depth 29", 30)
            .does("move 0 7 59; move 29 0 0").due("depth 29", 1).due("depth 28", 29));
    Suite.test(12, "Returns how many people learn it there", "8 people", () -> {
      Run.of(Run.times(8, "person true"), "fact; scene 0 0 0 0 0",
          Run.each(0, 7, "present 0 # true")).due("tell 0 0", 8).due("knowers 0", 8);
    });
    Suite.test(29, "Returns the number of pairs.", "30 by 30 of 60 statements", () -> {
      Run.of("fact; scene 0 0 0 0 0",
          Run.times(30, "state 0 0 true false; state 0 0 false false"))
          .due("clashes 0", 900).due("repair 0", 30).due("isSo 0", false);
    });
    Suite.test(44, "Returns the number of episodes.", "8 people up to episode 7", () -> {
      Run.of(Run.times(8, "person true"), Run.each(0, 7, "promise # 7")).due("broken", 64);
    });
    Suite.test(42, "Returns the number of scenes.", "30 scenes, two acts in each", () -> {
      Run.of("person false; fact", Run.times(30, "scene 0 0 0 0 0"), Run.each(0, 29,
          "present # 0 true; act # 0 0; act # 0 0")).due("leaving 0 0", 30).due("unknown", 60);
    });
    Suite.test(33, "Returns the number of facts.", "24 facts", () -> {
      Run.of("person false", Run.times(24, "fact"), "scene 0 0 0 0 0; scene 7 0 0 0 0",
          "present 1 0 true", Run.each(0, 23, "tell 0 #; act 1 0 #"))
          .due("recap 7 true", 24).due("recap 7 false", 24).due("recapAt 7 true 0", 0)
          .due("recapAt 7 false 23", 23).fails("recapAt 7 true 24", "NoSuchElementException");
    });
    shootingDays();
  }

  private static void shootingDays() {
    Suite.test(41, "Returns the number of days.", "30 scenes at 10 sets, a child in each", () -> {
      StringBuilder all = new StringBuilder("person true; ");
      for (int i = 0; i < 30; i++) {
        all.append("scene 0 0 0 ").append(i % 10).append(" 0; present ").append(i).append(" 0 true; ");
      }
      Run.of(all.toString()).due("shooting 0", 20);
    });
    Suite.test(41, "Returns the number of days.", "30 scenes at one set, a child in each", () -> {
      Run.of("person true", Run.times(30, "scene 0 0 0 9 0"),
          Run.each(0, 29, "present # 0 true")).due("shooting 0", 15);
    });
    Suite.test(41, "Returns the number of days.", "30 scenes at one set, without children", () -> {
      Run.of(Run.times(30, "scene 0 0 0 9 0")).due("shooting 0", 10);
    });
  }

  private static void figures() {
    Suite.test(48, "Returns the sum divided by their number, both converted to double.",
        "a row of 30", () -> Run.of(chain()).due("meanDepth", 15.5));
    Suite.test(47, "both converted to float", "20 of 20",
        () -> Run.of("scene 0 0 0 0 0; scene 0 1 0 0 0", Run.times(20, "setUp 0"),
            Run.each(0, 19, "pay # 1")).due("paidShare", 1.0f));
    Suite.test(47, "both converted to float", "13 of 17",
        () -> Run.of("scene 0 0 0 0 0; scene 0 1 0 0 0", Run.times(17, "setUp 0"),
            Run.each(0, 12, "pay # 1")).due("paidShare", 13.0f / 17.0f));
    Suite.test(45, "The credit in an episode is 1000 times", "all that can count, for one writer",
        () -> {
          // 24 scenes, 60 causes, 20 set-ups, and 2 for each as it is paid; 6 scenes of another one.
          Run.of(Run.times(6, "scene 0 0 0 0 5"), Run.times(24, "scene 0 1 0 0 0"),
              row(6, 28), row(6, 28).replaceAll("cause (\\d+) (\\d+)", "cause $2 $1"),
              Run.each(8, 21, "cause 6 #"), Run.times(20, "setUp 6"), Run.each(0, 19, "pay # 29"))
              .due("credit 0 0", 1000 * 144 / 150).due("credit 0 5", 0);
        });
    Suite.test(45, "rounded down", "a third of all that can count", () -> {
      Run.of("scene 0 0 0 0 1; scene 0 0 0 0 2; scene 0 0 0 0 3").due("credit 0 1", 333)
          .due("credit 0 2", 333).due("credit 0 3", 333).due("credit 0 4", 0);
    });
  }
}
