import java.lang.reflect.Method;

/** Each refusal of each call: its number, that it alone is counted, and that nothing else changes. */
public final class RefusalTest extends Due {
  private static final int LEAST = Integer.MIN_VALUE;
  private static final int MOST = Integer.MAX_VALUE;

  // A call's name, its arguments, its refusal: on two people (the second with CANDLE 0), no image, nothing to take back.
  private static final Object[][] REFUSED = {
    {"feed", -1, -4}, {"feed", LEAST, -4}, {"feed", 256, -6}, {"feed", MOST, -6},
    {"personOf", 2, 0, -1}, {"personOf", LEAST, LEAST, -1}, {"personOf", MOST, 0, -1}, {"personOf", 0, MOST, -2},
    {"personOf", 0, LEAST, -2},
    {"person", LEAST, LEAST, LEAST, -2}, {"person", MOST, MOST, MOST, -2}, {"person", 0, LEAST, MOST, -4},
    {"person", 0, MOST, LEAST, -4}, {"person", 0, MOST, 0, -6}, {"person", 0, 0, MOST, -6},
    {"sets", 2, 9, 999, -1}, {"sets", 0, LEAST, LEAST, -2}, {"sets", 0, MOST, MOST, -2}, {"sets", 0, 0, LEAST, -4},
    {"sets", 0, 1, MOST, -6},
    {"trusts", 0, 0, -1}, {"trusts", 0, 2, -1}, {"trusts", 2, 0, -1}, {"trusts", LEAST, LEAST, -1},
    {"trusts", MOST, MOST, -1},
    {"lights", 2, -1}, {"lights", LEAST, -1}, {"lights", 1, -3},
    {"gives", 0, 0, LEAST, -1}, {"gives", 0, 2, 0, -1}, {"gives", 2, 0, 0, -1}, {"gives", 0, 1, LEAST, -4},
    {"gives", 0, 1, MOST, -6}, {"gives", 0, 1, 31, -6},
    {"hours", LEAST, -4}, {"hours", 0, -4}, {"hours", 100, -6}, {"hours", MOST, -6},
    {"nights", LEAST, -4}, {"nights", 0, -4}, {"nights", 13, -6}, {"nights", MOST, -6},
    {"back", -3},
    {"behind", 2, LEAST, LEAST, -1}, {"behind", 0, LEAST, LEAST, -4}, {"behind", 0, MOST, LEAST, -6},
    {"behind", 0, 0, LEAST, -2}, {"behind", 0, 99, MOST, -2},
    {"all", LEAST, LEAST, -4}, {"all", MOST, MOST, -6}, {"all", 0, MOST, -2}, {"all", 99, LEAST, -2},
    {"lasts", 2, -1}, {"lasts", LEAST, -1}, {"longest", 4, -2}, {"longest", LEAST, -2},
    {"give", 0, 0, LEAST, -1}, {"give", 2, 0, 5, -1}, {"give", 0, 2, 5, -1}, {"give", 0, 1, LEAST, -4},
    {"give", 0, 1, 0, -4}, {"give", 0, 1, 100, -6}, {"give", 0, 1, MOST, -6},
    {"bestFriend", LEAST, LEAST, -1}, {"bestFriend", 2, 0, -1}, {"bestFriend", 0, LEAST, -2},
    {"bestFriend", 0, MOST, -2},
    {"both", 0, 0, MOST, -1}, {"both", 2, 0, 0, -1}, {"both", 0, 2, 0, -1}, {"both", 0, 1, MOST, -2},
    {"both", 0, 1, LEAST, -2},
    {"borrow", 2, 1000000001}, {"borrow", LEAST, 1000000001}, {"borrow", MOST, 1000000001},
    {"night", 2, LEAST, LEAST, -1}, {"night", 0, LEAST, LEAST, -4}, {"night", 0, MOST, LEAST, -6},
    {"night", 0, 1, LEAST, -2}, {"night", 0, 12, MOST, -2},
    {"nightOfAll", LEAST, LEAST, -4}, {"nightOfAll", 0, 0, -4}, {"nightOfAll", 13, 2, -6}, {"nightOfAll", MOST, 0, -6},
    {"nightOfAll", 12, 2, -2}, {"nightOfAll", 1, LEAST, -2},
    {"trust", 2, LEAST, -1}, {"trust", 0, LEAST, -4}, {"trust", 0, 0, -4}, {"trust", 0, 13, -6}, {"trust", 0, MOST, -6},
    {"safe", 2, LEAST, -1}, {"safe", 0, LEAST, -4}, {"safe", 0, 0, -4}, {"safe", 0, 13, -6}, {"safe", 0, MOST, -6},
    {"relay", LEAST, -2}, {"relay", 2, -2},
    {"tax", LEAST, LEAST, -4}, {"tax", -1, 0, -4}, {"tax", 10, 2, -6}, {"tax", MOST, 0, -6}, {"tax", 9, 2, -2},
    {"tax", 0, LEAST, -2},
    {"hide", 2, -1}, {"hide", LEAST, -1},
    {"whatHeHolds", 2, LEAST, -1}, {"whatHeHolds", LEAST, 0, -1}, {"whatHeHolds", 0, LEAST, -2},
    {"whatHeHolds", 0, 4, -2},
    {"whoGave", 2, -1}, {"whoGave", LEAST, -1},
    {"halve", 0, 0, -1}, {"halve", 0, 2, -1}, {"halve", 2, 0, -1}, {"halve", LEAST, MOST, -1},
    {"draft", 2, LEAST, LEAST, LEAST, 4000000000000000001L}, {"draft", 0, LEAST, MOST, MOST, 4000000000000000004L},
    {"draft", 0, MOST, LEAST, MOST, 4000000000000000004L}, {"draft", 0, MOST, 2, MOST, 4000000000000000006L},
    {"draft", 0, 0, MOST, LEAST, 4000000000000000006L}, {"draft", 0, 8, 20, LEAST, 4000000000000000002L},
    {"draft", 0, 8, 20, 2, 4000000000000000002L},
    {"shares", LEAST, -2}, {"shares", 2, -2}, {"richest", LEAST, -2}, {"richest", 2, -2},
    {"mean", LEAST, 4000000000000000002L}, {"mean", 2, 4000000000000000002L},
    {"ring", 2, -1}, {"ring", LEAST, -1}, {"above", LEAST, -4}, {"above", -1, -4}, {"above", 1000, -6},
    {"above", MOST, -6}, {"trusted", 2, -1}, {"trusted", LEAST, -1},
    {"gap", LEAST, -4}, {"gap", 0, -4}, {"gap", 13, -6}, {"gap", MOST, -6},
    {"row", LEAST, -4}, {"row", -1, -4}, {"row", 100, -6}, {"row", MOST, -6},
    {"lots", LEAST, 0, LEAST, -4}, {"lots", 0, 0, 0, -4}, {"lots", 21, 0, 2, -6}, {"lots", MOST, 0, 0, -6},
    {"lots", 20, LEAST, 2, -2}, {"lots", 1, MOST, LEAST, -2},
    {"restore", -3}
  };

  public static void main(String[] args) throws Exception {
    for (Object[] refused : REFUSED) {
      one(refused);
    }
    end();
  }

  private static void one(Object[] refused) throws Exception {
    FasterForTheRich x = new FasterForTheRich();
    town(x, "p0430;p1350;t10;l0;h104;c100;");
    feed(x, "p0");
    row(x, 4, 5);
    String before = told(x);
    int many = refused.length - 2;
    Class<?>[] types = new Class<?>[many];
    Object[] args = new Object[many];
    StringBuilder call = new StringBuilder((String) refused[0]);
    for (int i = 0; i < many; i++) {
      types[i] = int.class;
      args[i] = refused[i + 1];
      call.append(' ').append(args[i]);
    }
    long want = ((Number) refused[many + 1]).longValue();
    Method method = FasterForTheRich.class.getMethod((String) refused[0], types);
    due(call.toString(), ((Number) method.invoke(x, args)).longValue(), want);
    long why = method.getReturnType() == long.class ? 4000000000000000000L - want : want > 0 ? 1000000000 - want : want;
    for (int i = 1; i <= 6; i++) due(call + ": REFUSALS -" + i, x.count(10 + i), -why == i ? 1 : 0);
    dueTrue(call + ": nothing changes", before.equals(told(x)));
  }

  /** All that is told of an object, but REFUSALS. */
  private static String told(FasterForTheRich x) {
    StringBuilder all = new StringBuilder();
    for (int what = 0; what <= 8; what++) all.append(x.count(what)).append(' ');
    for (int i = 0; i < x.count(0); i++) {
      for (int what = 0; what <= 10; what++) all.append(x.personOf(i, what)).append(' ');
    }
    return all.toString();
  }
}
