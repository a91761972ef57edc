import java.lang.reflect.InvocationTargetException;
import java.lang.reflect.Method;
import java.lang.reflect.Modifier;
import java.util.ArrayList;
import java.util.HashMap;
import java.util.List;
import java.util.Map;

/** Calls a room, or a model of one, by texts such as "tell 2 0" or "strike true". */
final class Calls {
  private static final Map<Class<?>, Map<String, Method>> METHODS = new HashMap<>();

  private Calls() {}

  /** Returns the answer, or which exception is thrown. */
  static Object answer(Object room, String call) {
    String[] words = call.split(" ");
    Method method = METHODS.computeIfAbsent(room.getClass(), Calls::methodsOf).get(words[0]);
    if (method == null || method.getParameterCount() != words.length - 1) {
      throw new AssertionError("there is no call " + call);
    }
    Object[] arguments = new Object[words.length - 1];
    for (int i = 0; i < arguments.length; i++) {
      arguments[i] = argument(method.getParameterTypes()[i], words[i + 1], call);
    }
    try {
      return method.invoke(room, arguments);
    } catch (InvocationTargetException thrown) {
      return Check.nameOf(thrown.getCause());
    } catch (IllegalAccessException impossible) {
      throw new AssertionError(impossible);
    }
  }

  private static Object argument(Class<?> type, String word, String call) {
    if (type == int.class) {
      return Integer.valueOf(word);
    }
    if (!word.equals("true") && !word.equals("false")) {
      throw new AssertionError(word + " is neither true nor false: " + call);
    }
    return word.equals("true");
  }

  private static Map<String, Method> methodsOf(Class<?> type) {
    Map<String, Method> all = new HashMap<>();
    for (Method method : type.getDeclaredMethods()) {
      if (Modifier.isPublic(method.getModifiers())) {
        method.setAccessible(true);
        all.put(method.getName(), method);
      }
    }
    return all;
  }

  /** All that can be asked about so many people, facts and scenes, and about one beyond each. */
  static List<String> asking(int people, int facts, int scenes) {
    List<String> all = new ArrayList<>(List.of("goesBack", "unknown", "wrongCauses", "unpaid",
        "wrongLines", "broken", "checksum", "paidShare", "meanDepth", "isSound"));
    for (int scene = -1; scene <= scenes; scene++) {
      all.add("sceneAt " + scene);
      all.add("depth " + scene);
    }
    for (int question = -1; question <= 20; question++) {
      all.add("questionIs " + question);
    }
    for (int fact = -1; fact <= facts; fact++) {
      askOfFact(all, fact);
    }
    for (int person = -1; person <= people; person++) {
      askOfPerson(all, person, facts, scenes);
    }
    for (int episode = -1; episode <= 8; episode++) {
      askOfEpisode(all, episode, facts);
    }
    return all;
  }

  private static void askOfFact(List<String> all, int fact) {
    for (String name : new String[] {"knowers ", "clashes ", "repair ", "isSo "}) {
      all.add(name + fact);
    }
    for (int episode = -1; episode <= 8; episode++) {
      all.add("remembers " + fact + " " + episode + " true");
      all.add("remembers " + fact + " " + episode + " false");
    }
  }

  private static void askOfPerson(List<String> all, int person, int facts, int scenes) {
    for (int fact = -1; fact <= facts; fact++) {
      all.add("since " + person + " " + fact);
      for (int scene = -1; scene <= scenes; scene++) {
        all.add("knows " + person + " " + fact + " " + scene);
      }
    }
    for (int episode = -1; episode <= 8; episode++) {
      all.add("leaving " + person + " " + episode);
    }
  }

  private static void askOfEpisode(List<String> all, int episode, int facts) {
    all.add("shooting " + episode);
    for (int writer = -1; writer <= 6; writer++) {
      all.add("credit " + episode + " " + writer);
    }
    for (String kind : new String[] {" true", " false"}) {
      all.add("recap " + episode + kind);
      for (int index = -1; index <= facts; index++) {
        all.add("recapAt " + episode + kind + " " + index);
      }
    }
  }
}
