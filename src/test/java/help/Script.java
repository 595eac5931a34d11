import java.lang.reflect.InvocationTargetException;
import java.lang.reflect.Method;
import java.util.ArrayList;
import java.util.Arrays;
import java.util.List;
import java.util.stream.Collectors;
import java.util.stream.IntStream;

/**
 * Runs lines of a script on one object and counts those that do not hold. A line is one of
 * "call(arguments) = answer", "mobile = state call timer area", "network = state call timer area",
 * "rows = up down", "causes = mobile network", "left = n", "up k = bytes", "down k = bytes"
 * and "forge up bytes" or "forge down bytes", with bytes in hexadecimal digits. "refused call(arguments) = answer"
 * holds when besides nothing changes that can be seen from outside.
 */
final class Script {
  // The document leaves free what an object answers after 512 calls; what made its scene is not counted here.
  private static final int MOST_CALLS = 512 - 50;

  private static int lines = 0;
  private static int wrong = 0;
  private static MobileCall counted = null;
  private static int calls = 0;

  private final String name;
  private final MobileCall x;

  private Script(String name, MobileCall x) {
    this.name = name;
    this.x = x;
  }

  static void run(String name, MobileCall x, String... script) {
    Script one = new Script(name, x);
    for (String line : script) {
      one.line(line);
    }
  }

  static void due(String what, Object got, Object want) {
    lines++;
    if (!got.equals(want)) {
      wrong++;
      System.out.println(what + " answered " + got + ", due is " + want);
    }
  }

  /** To be called last: a test that checked nothing has failed too. */
  static void end() {
    System.out.println("  " + lines + " checks, " + wrong + " wrong");
    if (wrong != 0 || lines == 0) {
      System.exit(1);
    }
  }

  /** All that told answers, in its order. */
  static int[] told(MobileCall x) {
    count(x, 14);
    return IntStream.range(0, 14).map(x::told).toArray();
  }

  /** The bytes of message k of a row in hexadecimal digits; "none" without such a message. */
  static String bytes(MobileCall x, int way, int k) {
    List<String> all = new ArrayList<>();
    int next = x.byteOf(way, k, 0);
    while (next >= 0 && all.size() < 25) {
      all.add(String.format("%02x", next));
      next = x.byteOf(way, k, all.size());
    }
    count(x, all.size() + 1);
    return all.isEmpty() ? "none" : String.join(" ", all);
  }

  static int forge(MobileCall x, int way, String bytes) {
    String[] parts = bytes.trim().split(" +");
    count(x, 1);
    long v = 0;
    for (String part : parts) {
      v = v << 8 | Integer.parseInt(part, 16);
    }
    return x.forge(way, v, parts.length);
  }

  /** All that can be seen of an object without changing it. */
  static String all(MobileCall x) {
    int[] told = told(x);
    StringBuilder seen = new StringBuilder(Arrays.toString(told));
    for (int way = 0; way < 2; way++) {
      for (int k = 0; k < told[8 + way]; k++) {
        seen.append(way == 0 ? ", up " : ", down ").append(bytes(x, way, k));
      }
    }
    count(x, 8);
    for (int i = 0; i < 8; i++) {
      seen.append(", digit ").append(x.digit(i));
    }
    return seen.toString();
  }

  private static void count(MobileCall x, int more) {
    calls = x == counted ? calls + more : more;
    counted = x;
    if (calls > MOST_CALLS) {
      throw new IllegalStateException("a test of more calls than an object is used for");
    }
  }

  private void line(String line) {
    if (line.startsWith("refused ")) {
      String before = all(x);
      line(line.substring(8));
      due(name + ": what can be seen after " + line, all(x), before);
      return;
    }
    if (line.startsWith("forge ")) {
      int way = line.startsWith("forge up ") ? 0 : 1;
      due(name + ": " + line, forge(x, way, line.substring(way == 0 ? 9 : 11)) > 0, true);
      return;
    }
    int sign = line.lastIndexOf(" = ");
    if (sign < 0) {
      throw new IllegalArgumentException(line);
    }
    String left = line.substring(0, sign).trim();
    due(name + ": " + left, answer(left), line.substring(sign + 3).trim());
  }

  private String answer(String left) {
    switch (left) {
      case "mobile": return told(0, 1, 2, 3);
      case "network": return told(4, 5, 6, 7);
      case "rows": return told(8, 9);
      case "left": return told(10);
      case "causes": return told(12, 13);
      default: break;
    }
    if (left.startsWith("up ")) {
      return bytes(x, 0, Integer.parseInt(left.substring(3)));
    }
    if (left.startsWith("down ")) {
      return bytes(x, 1, Integer.parseInt(left.substring(5)));
    }
    return String.valueOf(call(left));
  }

  private String told(int... whats) {
    count(x, whats.length);
    return Arrays.stream(whats).mapToObj(what -> String.valueOf(x.told(what))).collect(Collectors.joining(" "));
  }

  private int call(String text) {
    count(x, 1);
    int open = text.indexOf('(');
    String method = text.substring(0, open);
    String inside = text.substring(open + 1, text.length() - 1).trim();
    String[] words = inside.isEmpty() ? new String[0] : inside.split(", *");
    for (Method m : MobileCall.class.getMethods()) {
      if (m.getName().equals(method) && m.getParameterCount() == words.length) {
        return invoke(m, words);
      }
    }
    throw new IllegalArgumentException(text);
  }

  private int invoke(Method m, String[] words) {
    Object[] values = new Object[words.length];
    for (int k = 0; k < words.length; k++) {
      values[k] = value(m.getParameterTypes()[k], words[k]);
    }
    try {
      return (Integer) m.invoke(x, values);
    } catch (IllegalAccessException | InvocationTargetException e) {
      throw new IllegalStateException(m.getName(), e);
    }
  }

  private static Object value(Class<?> type, String word) {
    if (type == boolean.class) {
      return Boolean.valueOf(word);
    }
    if (type == long.class) {
      return Long.decode(word);
    }
    return Integer.decode(word);
  }
}
