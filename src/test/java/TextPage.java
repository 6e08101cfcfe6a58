import java.lang.reflect.InvocationTargetException;
import java.lang.reflect.Method;
import java.util.ArrayList;
import java.util.HashMap;
import java.util.List;
import java.util.Map;

/** A page that is asked by the text of a call, so that a wrong answer can be told in the very words that were asked. */
final class TextPage {
  /** The document frees what an object answers beyond that. */
  static final int MOST_CALLS = 512;
  private static final Map<String, Method> FACE = new HashMap<>();

  static {
    for (Method each : RisingPage.class.getDeclaredMethods()) FACE.put(each.getName(), each);
  }

  private final RisingPage page = new RisingPage();
  private final List<String> calls = new ArrayList<>();

  TextPage(String... earlier) {
    for (String call : earlier) ask(call);
  }

  static String nameOf(String call) { return call.substring(0, call.indexOf('(')); }

  /** What the page answers; true counts 1, false 0. */
  int ask(String call) {
    if (calls.size() == MOST_CALLS) throw new IllegalStateException("the test asks one object too often: " + call);
    calls.add(call);
    Method method = FACE.get(nameOf(call));
    String inside = call.substring(call.indexOf('(') + 1, call.lastIndexOf(')')).trim();
    String[] words = inside.isEmpty() ? new String[0] : inside.split("\\s*,\\s*");
    Object[] arguments = new Object[words.length];
    for (int i = 0; i < words.length; i++) arguments[i] = value(words[i], method.getParameterTypes()[i]);
    try {
      Object answer = method.invoke(page, arguments);
      return answer instanceof Boolean yes ? (yes ? 1 : 0) : (Integer) answer;
    } catch (IllegalAccessException | InvocationTargetException e) {
      throw new IllegalStateException(told() + " threw", e);
    }
  }

  private static Object value(String word, Class<?> type) {
    if (type == boolean.class) {
      if (!word.equals("true") && !word.equals("false")) throw new IllegalArgumentException(word);
      return word.equals("true");
    }
    return switch (word) {
      case "LEAST" -> Integer.MIN_VALUE;
      case "MOST" -> Integer.MAX_VALUE;
      default -> Integer.parseInt(word);
    };
  }

  int asked() { return calls.size(); }

  /** The last calls, the newest at the end. */
  String told() {
    int from = Math.max(0, calls.size() - 8);
    return (from > 0 ? ".. " + from + " calls more .. " : "") + String.join("; ", calls.subList(from, calls.size()));
  }
}
