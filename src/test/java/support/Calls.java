import java.lang.reflect.InvocationTargetException;
import java.lang.reflect.Method;
import java.util.HashMap;
import java.util.Map;
import java.util.TreeMap;

/** Calls a room, or a model of one, by the names of its methods. */
final class Calls {
  private static final Map<Class<?>, Map<String, Method>> METHODS = new HashMap<>();

  private Calls() {}

  /** Returns the answer, or which exception is thrown. */
  static Object answer(Object room, String name, Object... arguments) {
    Method method = METHODS.computeIfAbsent(room.getClass(), Calls::methodsOf).get(name);
    try {
      return method.invoke(room, arguments);
    } catch (InvocationTargetException thrown) {
      return Check.nameOf(thrown.getCause());
    } catch (IllegalAccessException impossible) {
      throw new AssertionError(impossible);
    }
  }

  private static Map<String, Method> methodsOf(Class<?> type) {
    Map<String, Method> all = new HashMap<>();
    for (Method method : type.getDeclaredMethods()) {
      if (java.lang.reflect.Modifier.isPublic(method.getModifiers())) {
        method.setAccessible(true);
        all.put(method.getName(), method);
      }
    }
    return all;
  }

  /** Asks all that can be asked of some people, facts and scenes without telling anything. */
  static TreeMap<String, Object> allAnswers(Object room, int people, int facts, int scenes) {
    TreeMap<String, Object> all = new TreeMap<>();
    for (String name : new String[] {"goesBack", "unknown", "wrongCauses", "unpaid", "wrongLines",
        "broken", "checksum", "paidShare", "meanDepth", "isSound"}) {
      ask(all, room, name);
    }
    for (int scene = -1; scene <= scenes; scene++) {
      ask(all, room, "sceneAt", scene);
      ask(all, room, "depth", scene);
    }
    for (int question = -1; question <= 20; question++) {
      ask(all, room, "questionIs", question);
    }
    for (int fact = -1; fact <= facts; fact++) {
      askOfFact(all, room, fact);
    }
    for (int person = -1; person <= people; person++) {
      askOfPerson(all, room, person, facts, scenes);
    }
    for (int episode = -1; episode <= 8; episode++) {
      askOfEpisode(all, room, episode, facts);
    }
    return all;
  }

  private static void ask(TreeMap<String, Object> all, Object room, String name, Object... args) {
    all.put(name + java.util.Arrays.toString(args), answer(room, name, args));
  }

  private static void askOfFact(TreeMap<String, Object> all, Object room, int fact) {
    for (String name : new String[] {"knowers", "clashes", "repair", "isSo"}) {
      ask(all, room, name, fact);
    }
    for (int episode = -1; episode <= 8; episode++) {
      ask(all, room, "remembers", fact, episode, true);
      ask(all, room, "remembers", fact, episode, false);
    }
  }

  private static void askOfPerson(
      TreeMap<String, Object> all, Object room, int person, int facts, int scenes) {
    for (int fact = -1; fact <= facts; fact++) {
      ask(all, room, "since", person, fact);
      for (int scene = -1; scene <= scenes; scene++) {
        ask(all, room, "knows", person, fact, scene);
      }
    }
    for (int episode = -1; episode <= 8; episode++) {
      ask(all, room, "leaving", person, episode);
    }
  }

  private static void askOfEpisode(
      TreeMap<String, Object> all, Object room, int episode, int facts) {
    ask(all, room, "shooting", episode);
    for (int writer = -1; writer <= 6; writer++) {
      ask(all, room, "credit", episode, writer);
    }
    for (boolean isWeekly : new boolean[] {true, false}) {
      ask(all, room, "recap", episode, isWeekly);
      for (int index = -1; index <= facts; index++) {
        ask(all, room, "recapAt", episode, isWeekly, index);
      }
    }
  }
}
