import java.lang.reflect.InvocationTargetException;
import java.lang.reflect.Method;
import java.util.Arrays;
import java.util.HashMap;
import java.util.Map;

/**
 * Edges that the document names, each told in one line: the promise and the sentence, a town in letters, and steps on a
 * new object. A step is one of these:
 *
 * <ul>
 *   <li>{@code sets 0 2 0 = 50}: a call and the answer that is due ({@code sets 0 2 0}: whatever it answers);
 *   <li>{@code sets 0 0 100 refused 6}: it is refused, that alone is counted, nothing else changes;
 *   <li>{@code tell p0000;l0; = 2}: letters are fed and told; with a FAULT nothing changes and nothing is counted;
 *   <li>{@code bring 1 0 990}: so many coins more for 0, by way of 1, who HOLDS none then;
 *   <li>{@code 10 times sets 0 2 99, hours 9}: so many times these.
 * </ul>
 */
class Edges extends Due {
  private static final int MOST_CALLS = 512;
  private static final Map<String, Method> METHODS = new HashMap<>();

  static {
    for (Method method : FasterForTheRich.class.getMethods()) METHODS.put(method.getName(), method);
  }

  private final String sentence;
  private final FasterForTheRich x = new FasterForTheRich();
  private int calls = 0;

  // Tests stand under this class; none is made of them.
  Edges() {
    this("");
  }

  private Edges(String sentence) {
    this.sentence = sentence;
  }

  static void edge(String sentence, String town, String... steps) {
    Edges one = new Edges(sentence);
    if (!town.isEmpty()) {
      one.feedAll(town);
      dueTrue(sentence + ": the town " + town + " comes", one.call("town") > 0);
    }
    for (String step : steps) one.step(step);
    dueTrue(sentence + ": calls are " + MOST_CALLS + " at most", one.calls <= MOST_CALLS);
  }

  private void step(String step) {
    String[] words = step.split(" ");
    if (words.length > 1 && words[1].equals("times")) {
      String[] steps = step.substring(step.indexOf("times ") + 6).split(", ");
      for (int i = 0; i < Integer.parseInt(words[0]); i++) {
        for (String again : steps) step(again);
      }
    } else if (words[0].equals("bring")) {
      bring(Integer.parseInt(words[1]), Integer.parseInt(words[2]), Integer.parseInt(words[3]));
    } else if (words[0].equals("tell")) {
      tell(words[1], Integer.parseInt(words[3]));
    } else if (step.contains(" refused ")) {
      refused(step.substring(0, step.indexOf(" refused ")), Integer.parseInt(words[words.length - 1]));
    } else if (step.contains(" = ")) {
      String call = step.substring(0, step.indexOf(" = "));
      due(sentence + ": " + call, call(call), Long.parseLong(words[words.length - 1]));
    } else {
      call(step);
    }
  }

  private long call(String call) {
    String[] words = call.split(" ");
    Object[] args = new Object[words.length - 1];
    for (int i = 0; i < args.length; i++) args[i] = Integer.parseInt(words[i + 1]);
    calls++;
    try {
      return ((Number) METHODS.get(words[0]).invoke(x, args)).longValue();
    } catch (IllegalAccessException | InvocationTargetException thrown) {
      throw new IllegalStateException(sentence + ": " + call, thrown);
    }
  }

  private void feedAll(String letters) {
    for (char letter : letters.toCharArray()) call("feed " + (int) letter);
  }

  private void bring(int from, int to, int coins) {
    for (int left = coins; left > 0; left -= Math.min(99, left)) {
      call("sets " + from + " 0 " + Math.min(99, left));
      call("gives " + from + " " + to + " " + Math.min(99, left));
    }
  }

  private void tell(String letters, int want) {
    String before = told();
    long[] counted = refusals();
    feedAll(letters);
    due(sentence + ": " + letters, call("town"), want);
    due(sentence + ": no letters then", call("count 6"), 0);
    if (want < 0) {
      dueTrue(sentence + ": nothing of " + letters + " comes", before.equals(told()));
      dueTrue(sentence + ": nothing is counted of " + letters, Arrays.equals(counted, refusals()));
    }
  }

  private void refused(String call, int why) {
    String before = told();
    long[] counted = refusals();
    long answer = call(call);
    Method method = METHODS.get(call.split(" ")[0]);
    long want = -why;
    if (method.getName().equals("borrow")) want = 1000000000L + why;
    if (method.getReturnType() == long.class) want = 4000000000000000000L + why;
    due(sentence + ": " + call, answer, want);
    counted[why - 1]++;
    dueTrue(sentence + ": " + call + " is counted", Arrays.equals(counted, refusals()));
    dueTrue(sentence + ": nothing changes by " + call, before.equals(told()));
  }

  private long[] refusals() {
    long[] counted = new long[6];
    for (int i = 0; i < 6; i++) counted[i] = call("count " + (11 + i));
    return counted;
  }

  /** All that is told, but REFUSALS. */
  private String told() {
    StringBuilder all = new StringBuilder();
    for (int what = 0; what <= 8; what++) all.append(call("count " + what)).append(' ');
    long people = call("count 0");
    for (int i = 0; i < people; i++) {
      for (int what = 0; what <= 10; what++) all.append(call("personOf " + i + " " + what)).append(' ');
    }
    return all.toString();
  }
}
