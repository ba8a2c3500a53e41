import java.lang.reflect.InvocationTargetException;
import java.lang.reflect.Method;

/**
 * Runs of calls, drawn from seeds that are always the same, on the program and on the model, whose answers must be the
 * same. The first wrong answer of a run is told with the calls ahead of it that changed something.
 */
public final class RandomRunsTest {
  private static final int RUNS = 3000;
  private static final int CALLS = 512;

  private static final int LEAST = Integer.MIN_VALUE;
  private static final int MOST = Integer.MAX_VALUE;

  // Of each call its arguments' ranges, in pairs; a draw goes beside them now and then.
  private static final Object[][] CALLED = {
    {"feed", 0, 255}, {"town"}, {"personOf", 0, 5, 0, 10}, {"person", 0, 5, 0, 9, 0, 99},
    {"sets", 0, 5, 0, 2, 0, 99}, {"trusts", 0, 5, 0, 5}, {"lights", 0, 5}, {"gives", 0, 5, 0, 5, 0, 40},
    {"hours", 1, 6}, {"nights", 1, 12}, {"back"}, {"behind", 0, 5, 0, 99, 0, 2}, {"all", 0, 99, 0, 1},
    {"lasts", 0, 5}, {"longest", 0, 3}, {"give", 0, 5, 0, 5, 1, 99}, {"bestFriend", 0, 5, 0, 1},
    {"both", 0, 5, 0, 5, 0, 1}, {"borrow", 0, 5}, {"night", 0, 5, 1, 12, 0, 2}, {"nightOfAll", 1, 12, 0, 1},
    {"trust", 0, 5, 1, 12}, {"safe", 0, 5, 1, 12}, {"relay", 0, 1}, {"tax", 0, 9, 0, 1}, {"hide", 0, 5},
    {"whatHeHolds", 0, 5, 0, 3}, {"whoGave", 0, 5}, {"halve", 0, 5, 0, 5}, {"draft", 0, 5, 0, 8, 2, 20, 0, 1},
    {"shares", 0, 1}, {"richest", 0, 1}, {"mean", 0, 1}, {"apart"}, {"ring", 0, 5}, {"above", 0, 150},
    {"trusted", 0, 5}, {"unlit"}, {"gap", 1, 12}, {"same"}, {"row", 0, 99}, {"judge"}, {"clear"},
    {"lots", 1, 20, LEAST, MOST, 0, 1}, {"image"}, {"restore"}, {"count", 0, 16}
  };
  private static final String CHANGES = " feed town person sets trusts lights gives hours nights back row judge clear"
      + " image restore ";

  private final FasterForTheRich program = new FasterForTheRich();
  private final Model model = new Model();
  private final StringBuilder told = new StringBuilder();
  private final int style;
  private long seed;
  private int calls = 0;
  private boolean right = true;

  private RandomRunsTest(int run) {
    seed = 7919L * run + 1;
    style = run % 6;
  }

  public static void main(String[] args) throws Exception {
    Method[] ofProgram = methodsOf(FasterForTheRich.class);
    Method[] ofModel = methodsOf(Model.class);
    int wrong = 0;
    for (int run = 0; run < RUNS && wrong < 5; run++) {
      RandomRunsTest one = new RandomRunsTest(run);
      one.live(ofProgram, ofModel);
      Due.dueTrue("run " + run, one.right);
      if (!one.right) wrong++;
    }
    Due.end();
  }

  private static Method[] methodsOf(Class<?> type) throws NoSuchMethodException {
    Method[] found = new Method[CALLED.length];
    for (int i = 0; i < CALLED.length; i++) {
      Class<?>[] ints = new Class<?>[CALLED[i].length / 2];
      java.util.Arrays.fill(ints, int.class);
      found[i] = type.getMethod((String) CALLED[i][0], ints);
    }
    return found;
  }

  private int draw(int below) {
    seed = seed * 6364136223846793005L + 1442695040888963407L;
    return (int) ((seed >>> 33) % below);
  }

  private static int placeOf(String name) {
    for (int i = 0; i < CALLED.length; i++) {
      if (CALLED[i][0].equals(name)) return i;
    }
    throw new IllegalArgumentException(name);
  }

  private void live(Method[] ofProgram, Method[] ofModel) throws Exception {
    int first = draw(7);
    for (int i = 0; i < first; i++) call(ofProgram, ofModel, placeOf("person"));
    while (right && calls < CALLS) {
      int kind = draw(10);
      if (kind < 4) change(ofProgram, ofModel);
      else if (kind == 4) tellRow(ofProgram, ofModel);
      else call(ofProgram, ofModel, draw(CALLED.length));
    }
  }

  private void change(Method[] ofProgram, Method[] ofModel) throws Exception {
    int kind = draw(8);
    if (style == 0 && kind < 5) {
      pile(ofProgram, ofModel);
    } else if (style == 1 && kind < 5) {
      spend(ofProgram, ofModel);
    } else if (style == 2 && kind < 3) {
      fill(ofProgram, ofModel);
    } else if (kind == 7) {
      feed(ofProgram, ofModel, draw(4) == 0 ? anyText() : likelyText());
      call(ofProgram, ofModel, placeOf("town"));
    } else {
      String[] changes = {"sets", "trusts", "lights", "gives", "nights", "hours", "sets"};
      call(ofProgram, ofModel, placeOf(changes[kind]));
    }
  }

  // Coins come together, so that 999 are reached.
  private void pile(Method[] ofProgram, Method[] ofModel) throws Exception {
    int from = draw(6);
    int to = draw(4) == 0 ? draw(6) : draw(2);
    call(ofProgram, ofModel, placeOf("sets"), from, 0, 99);
    call(ofProgram, ofModel, placeOf("gives"), from, to, model.peek(from, 2));
    if (draw(8) == 0) call(ofProgram, ofModel, placeOf("trusts"), draw(6), to);
  }

  // One comes to HOLD 980 and more, with a CANDLE by which it is seen in mind whether 999 are the most.
  private void fill(Method[] ofProgram, Method[] ofModel) throws Exception {
    int from = draw(6);
    int to = draw(6);
    int most = 980 + draw(20);
    for (int i = 0; i < 11 && model.peek(to, 2) < most; i++) {
      call(ofProgram, ofModel, placeOf("sets"), from, 0, 99);
      call(ofProgram, ofModel, placeOf("gives"), from, to, Math.min(99, most - model.peek(to, 2)));
    }
    call(ofProgram, ofModel, placeOf("sets"), from, 0, draw(2) == 0 ? 10 * draw(10) : draw(100));
    if (draw(2) == 0) call(ofProgram, ofModel, placeOf("sets"), from, 2, 1 + draw(25));
    call(ofProgram, ofModel, placeOf("sets"), to, 2, model.peek(to, 9) + draw(8));
    call(ofProgram, ofModel, placeOf("bestFriend"), from, draw(2));
    call(ofProgram, ofModel, placeOf("both"), from, to, draw(2));
    call(ofProgram, ofModel, placeOf("borrow"), to);
    call(ofProgram, ofModel, placeOf("halve"), from, to);
    call(ofProgram, ofModel, placeOf("halve"), to, from);
    call(ofProgram, ofModel, placeOf("clear"));
    call(ofProgram, ofModel, placeOf("row"), model.peek(to, 4));
    call(ofProgram, ofModel, placeOf("row"), Math.max(0, model.peek(to, 4) - model.peek(to, 9)));
    call(ofProgram, ofModel, placeOf("whoGave"), to);
  }

  // Hours go by fast, so that hour 999 and page 999 are reached.
  private void spend(Method[] ofProgram, Method[] ofModel) throws Exception {
    call(ofProgram, ofModel, placeOf("sets"), 0, 0, 0);
    call(ofProgram, ofModel, placeOf("sets"), 0, 2, 99);
    if (model.peek(0, 5) == 0) call(ofProgram, ofModel, placeOf("lights"), 0);
    call(ofProgram, ofModel, placeOf("hours"), draw(3) == 0 ? 1 + draw(12) : 99);
  }

  // A row that tells one's candle by hours or the candles of all by numbers, mostly right, and what is asked of it.
  private void tellRow(Method[] ofProgram, Method[] ofModel) throws Exception {
    call(ofProgram, ofModel, placeOf("clear"));
    int person = draw(6);
    boolean byHours = draw(2) == 0;
    int burns = draw(2) == 0 ? model.peek(person, 9) : 1 + draw(25);
    int many = 1 + draw(7);
    for (int i = 0; i < many; i++) {
      int v = byHours ? Math.max(0, model.peek(person, 4) - i * burns) : model.peek(i, 4);
      call(ofProgram, ofModel, placeOf("row"), draw(40) == 0 ? draw(100) : v);
    }
    if (!byHours) call(ofProgram, ofModel, placeOf("judge"));
    else if (draw(3) == 0) call(ofProgram, ofModel, placeOf("whoGave"), person);
    else call(ofProgram, ofModel, placeOf("whatHeHolds"), person, draw(4));
  }

  private String likelyText() {
    StringBuilder text = new StringBuilder();
    int many = 1 + draw(6);
    for (int i = 0; i < many; i++) {
      switch (draw(7)) {
        case 0:
          text.append('p').append(draw(6)).append(draw(10)).append(draw(10)).append(draw(10));
          break;
        case 1:
          text.append('h').append(draw(6)).append(draw(10)).append(draw(10));
          break;
        case 2:
          text.append('c').append(draw(6)).append(draw(10)).append(draw(3) == 0 ? 0 : draw(10));
          break;
        case 3:
          text.append('l').append(draw(6));
          break;
        case 4:
          text.append('n').append(0).append(draw(10));
          break;
        default:
          text.append('t').append(draw(6)).append(draw(6));
          break;
      }
      text.append(';');
    }
    return text.toString();
  }

  private String anyText() {
    StringBuilder text = new StringBuilder(likelyText());
    int place = draw(text.length());
    text.setCharAt(place, "phctln;0123456789 \u00ff\u0000".charAt(draw(20)));
    if (draw(3) == 0) text.setLength(draw(text.length() + 1));
    return text.toString();
  }

  private void feed(Method[] ofProgram, Method[] ofModel, String text) throws Exception {
    for (char letter : text.toCharArray()) call(ofProgram, ofModel, placeOf("feed"), letter);
  }

  // One call with arguments drawn.
  private void call(Method[] ofProgram, Method[] ofModel, int place) throws Exception {
    Object[] ranges = CALLED[place];
    int[] args = new int[ranges.length / 2];
    for (int i = 0; i < args.length; i++) args[i] = argument((Integer) ranges[2 * i + 1], (Integer) ranges[2 * i + 2]);
    call(ofProgram, ofModel, place, args);
  }

  private int argument(int least, int most) {
    int kind = draw(60);
    if (least == LEAST) return draw(MOST) * (draw(2) == 0 ? -2 : 2) + draw(2);
    if (kind == 0) return least - 1;
    if (kind == 1) return most + 1;
    if (kind == 2) return new int[] {LEAST, MOST, -1, 1000, 999, 100}[draw(6)];
    if (kind < 8) return draw(2) == 0 ? least : most;
    return least + draw(most - least + 1);
  }

  private void call(Method[] ofProgram, Method[] ofModel, int place, int... args) throws Exception {
    if (!right || calls >= CALLS) return;
    calls++;
    Object[] boxed = new Object[args.length];
    for (int i = 0; i < args.length; i++) boxed[i] = args[i];
    long got = ((Number) ofProgram[place].invoke(program, boxed)).longValue();
    long want = due(ofModel[place], boxed);
    String call = CALLED[place][0] + java.util.Arrays.toString(args);
    if (CHANGES.contains(" " + CALLED[place][0] + " ")) told.append(call).append(' ');
    if (got != want) {
      right = false;
      System.out.println(told + "... " + call + " answered " + got + ", due is " + want);
    }
  }

  private long due(Method call, Object[] args) throws Exception {
    try {
      return ((Number) call.invoke(model, args)).longValue();
    } catch (InvocationTargetException thrown) {
      if (!(thrown.getCause() instanceof Model.Refused)) throw thrown;
      int why = model.refused((Model.Refused) thrown.getCause());
      if (call.getReturnType() == long.class) return 4000000000000000000L - why;
      return call.getName().equals("borrow") ? 1000000000 - why : why;
    }
  }
}
