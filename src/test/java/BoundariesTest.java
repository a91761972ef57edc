/**
 * Each sentence of the document that names a boundary case, by tests of its own; with "names" as its
 * argument it prints what they are named.
 */
public final class BoundariesTest {
  public static void main(String[] args) {
    group("too small and too large", RangeCases::tests);
    group("too large in a full room", GreatestCases::tests);
    group("empty", EmptyCases::tests);
    group("full", FullCases::tests);
    group("a wrap-around", WrapCases::tests);
    group("a refused call", RefusedCases::tests);
    group("the season, promises 1 to 10", SeasonCases::tests);
    group("people and what they know, promises 11 to 18", WorldCases::tests);
    group("causes, set-ups and questions, promises 19 to 27", CauseCases::tests);
    group("canon and viewers, promises 28 to 34", CanonCases::tests);
    group("the board, promises 35 to 37", BoardCases::tests);
    group("words, production, promises and credit, promises 38 to 45", ProductionCases::tests);
    group("figures, promises 46 to 49", FigureCases::tests);
    Check.same("promises in the document", Suite.DOCUMENT.promises(), 49);
    for (String sentence : Suite.DOCUMENT.unnamed()) {
      Check.same("the tests named by: " + sentence, 0, "one at least");
    }
    if (args.length > 0 && args[0].equals("names")) {
      Suite.names().forEach(System.out::println);
    }
    Check.end();
  }

  private static void group(String name, Suite.Body tests) {
    int before = Suite.names().size();
    tests.run();
    System.out.println(Suite.names().size() - before + " tests: " + name);
  }
}
