/** Sentences on the figures: promises 46 to 49. */
final class FigureCases {
  private static final String ARITHMETIC = "ArithmeticException";

  private static final String FOUR = "person false; person true; scene 0 0 0 0 0; scene 0 1 0 0 0;"
      + "scene 0 2 0 0 0; scene 0 3 0 0 0;";

  private FigureCases() {}

  static void tests() {
    checksum();
    paidShare();
    meanDepth();
    isSound();
  }

  private static void checksum() {
    String words = "Returns 0 at first, then for each scene 31 times itself plus its number";
    Suite.test(46, "Returns a sum over the scenes by the order.", "two orders",
        () -> Run.of("scene 0 1 0 0 0; scene 0 1 0 0 0; scene 0 1 0 0 0")
            .due("checksum", 31L + 2).does("move 2 0 0").due("checksum", 2L * 961 + 1));
    Suite.test(46, words, "scene 0 alone", () -> Run.of("scene 7 59 999 9 5").due("checksum", 0L));
    Suite.test(46, "plus 7 times the people in it", "0, 1 and 8 of them",
        () -> Run.of(Run.times(8, "person true"), "scene 0 0 0 0 0").due("checksum", 0L)
            .does("present 0 7 true").due("checksum", 7L).does(Run.each(0, 6, "present 0 # true"))
            .due("checksum", 56L).does("present 0 3 false").due("checksum", 49L));
    Suite.test(46, words, "cut ones do not count",
        () -> Run.of(FOUR, "present 3 0 true; setCut 0 true; setCut 1 true; setCut 2 true")
            .due("checksum", 10L).does("setCut 2 false").due("checksum", 31L * 2 + 10));
  }

  private static void paidShare() {
    String words = "Returns the share of set-ups, in scenes that are not cut, that are paid.";
    Suite.test(47, words, "none of 1, 1 of 1",
        () -> Run.of(FOUR, "setUp 0").due("paidShare", 0.0f).does("pay 0 1").due("paidShare", 1.0f));
    Suite.test(47, words, "those in cut ones do not count",
        () -> Run.of(FOUR, "setUp 0; setUp 1; setUp 1; pay 0 2; pay 1 2").due("paidShare", 2.0f / 3.0f)
            .does("setCut 0 true").due("paidShare", 0.5f).does("setCut 1 true")
            .fails("paidShare", ARITHMETIC));
    Suite.test(47, words, "paid in a cut one",
        () -> Run.of(FOUR, "setUp 0; setUp 0; pay 0 1; pay 1 2; setCut 2 true")
            .due("paidShare", 0.5f));
    Suite.test(47, "Returns their number divided by that of all of these, both converted to float.",
        "1 of 3, and 2 of 3", () -> Run.of(FOUR, "setUp 0; setUp 0; setUp 0; pay 0 1")
            .due("paidShare", 1.0f / 3.0f).does("pay 2 1").due("paidShare", 2.0f / 3.0f));
    Suite.test(47, "Returns their number divided by that of all of these, both converted to float.",
        "each of 20", () -> {
          Run run = Run.of(FOUR, Run.times(20, "setUp 0"));
          for (int paid = 0; paid < 20; paid++) {
            run.due("paidShare", (float) paid / 20.0f).does("pay " + paid + " 1");
          }
        });
  }

  private static void meanDepth() {
    String words = "Returns the mean depth of the scenes that are not cut.";
    Suite.test(48, words, "1 by 1", () -> Run.of("scene 0 0 0 0 0").due("meanDepth", 1.0));
    Suite.test(48, words, "1 2 3 1",
        () -> Run.of(FOUR, "cause 0 1; cause 1 2").due("meanDepth", 7.0 / 4.0));
    Suite.test(48, words, "cut ones do not count",
        () -> Run.of(FOUR, "cause 0 1; cause 1 2; setCut 3 true").due("meanDepth", 2.0)
            .does("setCut 0 true").due("meanDepth", 1.5).does("setCut 1 true; setCut 2 true")
            .fails("meanDepth", ARITHMETIC).does("setCut 2 false").due("meanDepth", 1.0));
    Suite.test(48, "Returns the sum divided by their number, both converted to double.", "4 by 3",
        () -> Run.of(FOUR, "cause 0 1; setCut 3 true").due("meanDepth", 4.0 / 3.0));
  }

  private static void isSound() {
    Suite.test(49, "Returns whether this holds.", "behind each kind of call",
        () -> Run.of(FOUR, "fact; present 0 0 true").due("isSound", true)
            .does("move 0 7 59; move 3 0 0; setCut 1 true").due("isSound", true)
            .does("act 0 0 0; cause 0 3; setUp 0; state 0 0 true false; state 0 0 false false")
            .due("isSound", true).does("propose 0 2 0 0; merge 0; setCut 1 false")
            .due("isSound", true).does("strike true; air").due("isSound", true));
    Suite.test(49, "Returns whether this holds.", "behind a refused call",
        () -> Run.of(FOUR).fails("move 0 8 0", "IllegalArgumentException").due("isSound", true)
            .fails("move 4 0 0", "IndexOutOfBoundsException").due("isSound", true));
  }
}
