import java.util.ArrayList;
import java.util.List;

/**
 * Runs of 512 calls by fixed seeds, each call on a room and on the model. A call that throws leaves
 * the model as it was, so that a room which such a call changes differs from it later. All that can
 * be asked takes more calls than the document promises anything about on one object: it is asked of
 * rooms on which the run so far is made once more.
 */
public final class RandomRunsTest {
  /** The arguments of each call that tells something, and how often it is made. */
  private static final String[] TELLING = {
    "2 person b", "3 fact", "9 scene e m d t w", "5 move s e m", "4 setCut s b", "12 present s p B",
    "12 tell s f", "5 keep s p f b", "9 act s p f", "9 cause s s", "4 setUp s", "6 pay u s",
    "4 question s f e", "3 stay q b", "10 state s f b r", "8 propose w s e m", "8 vote w w B",
    "5 merge w", "4 never p x b", "6 say s p x", "3 promise p e",
  };
  /** The arguments of each call that asks something. */
  private static final String[] ASKING = {
    "sceneAt s", "goesBack", "knows p f s", "since p f", "unknown", "knowers f", "wrongCauses",
    "depth s", "unpaid", "questionIs q", "clashes f", "repair f", "isSo f", "remembers f e b",
    "recap e b", "recapAt e b f", "wrongLines", "shooting e", "leaving p e", "broken", "credit e w",
    "checksum", "paidShare", "meanDepth", "isSound",
  };
  /** The first of these numbers airs rarely, the others more often. */
  private static final int[] AIRINGS = {1, 3, 8, 20};

  private long seed;
  private int people;
  private int facts;
  private int scenes;
  private final int run;
  private final int mostScenes;
  private final List<String> deck = new ArrayList<>();

  private RandomRunsTest(int run) {
    this.run = run;
    this.seed = 7919L * run + 17;
    this.mostScenes = 4 + run % 27;
    for (String call : TELLING) {
      String[] parts = call.split(" ", 2);
      for (int i = 0; i < Integer.parseInt(parts[0]); i++) {
        deck.add(parts[1]);
      }
    }
  }

  public static void main(String[] args) {
    for (int run = 0; run < 120; run++) {
      new RandomRunsTest(run).play();
    }
    Check.end();
  }

  private int below(int bound) {
    seed = seed * 6364136223846793005L + 1442695040888963407L;
    return (int) ((seed >>> 33) % bound);
  }

  private void play() {
    Run room = new Run();
    Model model = new Model();
    List<String> made = new ArrayList<>();
    for (int call = 0; call < Run.MOST_CALLS; call++) {
      String text = withArguments(choose(call));
      Object due = Calls.answer(model, text);
      Check.same("run " + run + ", call " + call + ": " + text, room.answer(text), due);
      made.add(text);
      count(text, due);
      if (call % 100 == 99 && call < 450) {
        compareAll("run " + run + ", behind call " + call, made, model);
      }
    }
  }

  private String withArguments(String template) {
    StringBuilder text = new StringBuilder();
    for (String part : template.split(" ")) {
      text.append(text.length() == 0 ? part : " " + argument(part.charAt(0)));
    }
    return text.toString();
  }

  private String choose(int call) {
    int airing = AIRINGS[run % AIRINGS.length];
    int chance = below(1000);
    if (chance < airing) {
      return "air";
    }
    if (chance < airing + 6) {
      return "strike b";
    }
    if (chance < airing + 20) {
      return "strike n";
    }
    if (call < 12) {
      return call % 3 == 0 ? "person b" : call % 3 == 1 ? "fact" : "scene e m d t w";
    }
    return below(4) == 0 ? ASKING[below(ASKING.length)] : deck.get(below(deck.size()));
  }

  private Object argument(char kind) {
    switch (kind) {
      case 'b': return below(2) == 0;
      case 'B': return below(4) != 0;
      case 'r': return below(6) == 0;
      case 'n': return false;
      case 's': return number(scenes);
      case 'p': return number(people);
      case 'f': return number(Math.min(facts, 5));
      case 'u': return number(Math.min(scenes, 6));
      case 'q': return number(3);
      case 'e': return number(8);
      case 'm': return below(3) == 0 ? number(60) : 7;
      case 'd': return number(1000);
      case 't': return below(3) == 0 ? number(10) : below(2);
      case 'w': return number(6);
      case 'x': return below(20) == 0 ? number(100) : below(4);
      default: throw new AssertionError("no such kind of argument");
    }
  }

  /** Mostly one that is in range, now and then one just outside. */
  private int number(int bound) {
    int chance = below(80);
    if (chance == 0 || bound == 0) {
      return -1;
    }
    return chance == 1 ? bound : below(bound);
  }

  private void count(String call, Object due) {
    boolean isMade = due instanceof Integer;
    people += isMade && call.startsWith("person ") ? 1 : 0;
    facts += isMade && call.equals("fact") ? 1 : 0;
    scenes += isMade && call.startsWith("scene ") ? 1 : 0;
    if (scenes >= mostScenes) {
      deck.removeIf(template -> template.startsWith("scene "));
    }
  }

  private void compareAll(String where, List<String> made, Model model) {
    List<String> asking = Calls.asking(people, Math.min(facts, 6), scenes);
    int chunk = Run.MOST_CALLS - made.size();
    for (int from = 0; from < asking.size(); from += chunk) {
      Run again = new Run();
      made.forEach(again::answer);
      for (String call : asking.subList(from, Math.min(from + chunk, asking.size()))) {
        Check.same(where + ": " + call, again.answer(call), Calls.answer(model, call));
      }
    }
  }
}
