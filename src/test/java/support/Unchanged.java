import java.util.ArrayList;
import java.util.HashMap;
import java.util.List;
import java.util.Map;

/**
 * Whether a refused call leaves everything as it was: each asking call answers behind it as ahead of
 * it, and so does each telling call, by which votes, branches and limits show. As the document
 * promises no more than 512 calls on an object, a script is run on as many objects as it takes.
 */
final class Unchanged {
  private static final Map<String, List<Object>> WITHOUT_REFUSED = new HashMap<>();

  private Unchanged() {}

  static void check(String script, String refused, int people, int facts, int scenes) {
    asksAlike(script, refused, Calls.asking(people, facts, scenes));
    tellsAlike(script, refused, telling(people, facts, scenes));
    tellsAlike(script, refused, filling());
  }

  private static void asksAlike(String script, String refused, List<String> asks) {
    int chunk = (Run.MOST_CALLS - 1 - Run.split(script).size()) / 2;
    for (int from = 0; from < asks.size(); from += chunk) {
      List<String> part = asks.subList(from, Math.min(from + chunk, asks.size()));
      Run run = Run.of(script);
      List<Object> ahead = answers(run, part);
      run.answer(refused);
      compare(part, answers(run, part), ahead, "behind the refused call");
    }
  }

  private static void tellsAlike(String script, String refused, List<String> tells) {
    int chunk = Run.MOST_CALLS - 2 - Run.split(script).size();
    for (int from = 0; from < tells.size(); from += chunk) {
      List<String> part = new ArrayList<>(List.of("strike false"));
      part.addAll(tells.subList(from, Math.min(from + chunk, tells.size())));
      String key = script + "|" + from + "|" + part.get(1);
      List<Object> without =
          WITHOUT_REFUSED.computeIfAbsent(key, unused -> answers(Run.of(script), part));
      Run with = Run.of(script);
      with.answer(refused);
      compare(part, answers(with, part), without, "behind the refused call and what is told since");
    }
  }

  private static List<Object> answers(Run run, List<String> calls) {
    List<Object> all = new ArrayList<>();
    for (String call : calls) {
      all.add(run.answer(call));
    }
    return all;
  }

  private static void compare(List<String> calls, List<Object> got, List<Object> due, String when) {
    for (int i = 0; i < calls.size(); i++) {
      Check.same(calls.get(i) + ", " + when + ",", got.get(i), due.get(i));
    }
  }

  /** Each answer of these tells something of what cannot be asked. */
  private static List<String> telling(int people, int facts, int scenes) {
    StringBuilder all = new StringBuilder();
    for (int scene = 0; scene < scenes; scene++) {
      for (int person = 0; person < people; person++) {
        all.append("present " + scene + " " + person + " true; ");
        for (int fact = 0; fact < facts; fact++) {
          all.append("keep " + scene + " " + person + " " + fact + " false; ");
        }
      }
      for (int other = 0; other < scenes; other++) {
        all.append(other == scene ? "" : "cause " + scene + " " + other + "; ");
      }
      all.append("setCut " + scene + " false; pay 0 " + scene + "; tell " + scene + " 0; ");
    }
    for (int person = 0; person < people; person++) {
      all.append("promise " + person + " 0; never " + person + " 0 true; ");
      all.append("never " + person + " 5 true; never " + person + " 99 true; ");
    }
    for (int writer = 0; writer < 6; writer++) {
      all.append("vote " + (writer + 1) % 6 + " " + writer + " true; ");
      all.append("propose " + writer + " 3 7 0; merge " + writer + "; ");
    }
    all.append("stay 0 true; stay 1 true; person true; fact; scene 7 0 0 0 0; air; air");
    return Run.split(all.toString());
  }

  /** How many are there shows by which one of these is refused first. */
  private static List<String> filling() {
    return Run.split(Run.times(61, "act 3 0 0") + Run.times(91, "say 3 0 0")
        + Run.times(21, "setUp 3") + Run.times(21, "question 3 0 0")
        + Run.times(61, "state 3 0 true false") + Run.times(12, "propose 3 3 7 0")
        + Run.times(12, "propose 1 3 7 0") + Run.times(8, "person false"));
  }
}
