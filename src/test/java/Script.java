import java.lang.reflect.InvocationTargetException;
import java.lang.reflect.Method;
import java.util.ArrayList;
import java.util.HashMap;
import java.util.List;
import java.util.Map;

/**
 * Plays lines of calls on a new object. A line is one of
 *
 * <pre>
 *   sees 0 16 = 1          a call and its due answer (MIN and MAX stand for the ends of an int)
 *   guess 0 0 = 41/3       a call without its part, which is asked for with part 0 and part 1
 *   sees 0 17 = no -6      a refusal: its answer, as an int or as a long, and that it is counted
 *   tell s005;lp0;         letters and an evening without a FAULT
 *   tell s005;s005; = -2005    letters and an evening with its due answer
 *   write w0;              letters alone
 *   16 x row 5             a call so many times, whatever it answers
 * </pre>
 *
 * A twin gets all lines but the refusals. In the end both must show the same but for what refusals are
 * counted, so a refusal that changes anything else is seen.
 */
final class Script {
  private static final long LONG_REFUSAL = 4000000000000000000L;
  private static final int MOST_CALLS = 512;
  private static final Map<String, Method> METHODS = new HashMap<>();

  static {
    for (Method method : SixtyOneCabs.class.getMethods()) {
      METHODS.put(method.getName(), method);
    }
  }

  private final String sentence;
  private final SixtyOneCabs x = new SixtyOneCabs();
  private final SixtyOneCabs twin = new SixtyOneCabs();
  private final int[] refusals = new int[7];
  private int calls = 0;

  private Script(String sentence) {
    this.sentence = sentence;
  }

  /** One sentence of the document and the lines that would fail if it were broken. */
  static void holds(String sentence, String... lines) {
    Script script = new Script(sentence);
    for (String line : lines) {
      script.play(line);
    }
    script.end();
  }

  private void play(String line) {
    String[] sides = line.split(" = ");
    String due = sides.length > 1 ? sides[1] : "";
    String call = sides[0];
    if (call.startsWith("tell ") || call.startsWith("write ")) {
      tell(call.startsWith("tell "), call.substring(call.indexOf(' ') + 1), due);
    } else if (call.contains(" x ")) {
      for (int i = Integer.parseInt(call.substring(0, call.indexOf(' '))); i > 0; i--) {
        both(call.substring(call.indexOf(" x ") + 3));
      }
    } else if (due.startsWith("no ")) {
      refuse(call, Integer.parseInt(due.substring(3)));
    } else if (due.contains("/")) {
      Check.due(name(call + " 0"), both(call + " 0"), Long.parseLong(due.substring(0, due.indexOf('/'))));
      Check.due(name(call + " 1"), both(call + " 1"), Long.parseLong(due.substring(due.indexOf('/') + 1)));
    } else {
      Check.due(name(call), both(call), Long.parseLong(due));
    }
  }

  private void tell(boolean asEvening, String text, String due) {
    int statements = 0;
    for (int i = 0; i < text.length(); i++) {
      both("letter " + (int) text.charAt(i));
      statements += text.charAt(i) == ';' ? 1 : 0;
    }
    if (asEvening) {
      Check.due(name("evening " + text), both("evening"), due.isEmpty() ? statements : Long.parseLong(due));
    }
  }

  private void refuse(String call, int code) {
    refusals[-code]++;
    boolean isLong = METHODS.get(call.split(" ")[0]).getReturnType() == long.class;
    Check.due(name(call), answer(x, call), isLong ? LONG_REFUSAL - code : code);
  }

  private String name(String call) {
    return "\"" + sentence + "\": " + call;
  }

  private long both(String call) {
    long one = answer(x, call);
    Check.due(name(call + " as of one that was refused nothing"), one, answer(twin, call));
    return one;
  }

  private long answer(SixtyOneCabs object, String call) {
    calls += object == x ? 1 : 0;
    String[] words = call.split(" ");
    Object[] values = new Object[words.length - 1];
    for (int i = 0; i < values.length; i++) {
      values[i] = number(words[i + 1]);
    }
    try {
      return ((Number) METHODS.get(words[0]).invoke(object, values)).longValue();
    } catch (IllegalAccessException | InvocationTargetException e) {
      throw new IllegalStateException(name(call), e);
    }
  }

  private static int number(String word) {
    if (word.equals("MIN")) {
      return Integer.MIN_VALUE;
    }
    return word.equals("MAX") ? Integer.MAX_VALUE : Integer.parseInt(word);
  }

  private void end() {
    for (int code = 1; code <= 6; code++) {
      Check.due(name("refusals -" + code), answer(x, "count " + (10 + code)), refusals[code]);
    }
    Check.due(name("shows the same as one that was refused nothing"), shown(x).equals(shown(twin)) ? 1 : 0, 1);
    Check.holds(name("at most 512 calls, not " + calls), calls <= MOST_CALLS);
  }

  /** All that an object shows; first as it is, then behind its letters, its row and its image. */
  private List<Long> shown(SixtyOneCabs object) {
    List<Long> all = new ArrayList<>();
    standing(object, all);
    String[] last = {"whatIs 0 0 0", "whatIs 0 0 1", "judge 16", "evening"};
    for (String call : last) {
      all.add(answer(object, call));
    }
    standing(object, all);
    all.add(answer(object, "on"));
    standing(object, all);
    return all;
  }

  private void standing(SixtyOneCabs object, List<Long> all) {
    for (int what = 0; what <= 7; what++) {
      all.add(answer(object, "count " + what));
    }
    for (int i = 0; i < 12; i++) {
      all.add(answer(object, "sheet " + i / 6 + " " + i % 6));
    }
    for (int i = 0; i < 3 * object.count(0); i++) {
      all.add(answer(object, "looker " + i / 3 + " " + i % 3));
    }
    for (int n = 1; n <= 16; n++) {
      all.add(answer(object, "belief " + n));
    }
  }
}
