/** Counts the calls of a test and tells those whose answer is not the one that is due; tests stand under it. */
class Due {
  /** One of each kind, with hidden coins, short and long candles, cousins; 0 and 4 are lit. NightTest tells its night. */
  static final String SIX = "p0430;p1350;p2240;p3620;p4530;p5710;h105;h320;c299;c401;t01;t13;t35;t23;l0;l4;";

  private static int asked = 0;
  private static int wrong = 0;

  Due() {}

  static void due(String call, long got, long want) {
    asked++;
    if (got != want) {
      wrong++;
      System.out.println(call + " answered " + got + ", due is " + want);
    }
  }

  static void dueTrue(String what, boolean is) {
    due(what, is ? 1 : 0, 1);
  }

  /** Feeds letters; the answer is how many there are then. */
  static int feed(FasterForTheRich x, String letters) {
    int many = x.count(6);
    for (char letter : letters.toCharArray()) {
      many = x.feed(letter);
    }
    return many;
  }

  /** Feeds letters and has them told. */
  static int town(FasterForTheRich x, String letters) {
    feed(x, letters);
    return x.town();
  }

  /** A new object with a town; it tells of its own if the town has a fault. */
  static FasterForTheRich of(String letters) {
    FasterForTheRich x = new FasterForTheRich();
    if (town(x, letters) < 0) {
      dueTrue("the town " + letters + " comes", false);
    }
    return x;
  }

  /** So many coins more for one, by 99 at most, from another one, who HOLDS none then. */
  static void bring(FasterForTheRich x, int from, int to, int coins) {
    for (int left = coins; left > 0; left -= Math.min(99, left)) {
      x.sets(from, 0, Math.min(99, left));
      x.gives(from, to, Math.min(99, left));
    }
  }

  static void row(FasterForTheRich x, int... numbers) {
    x.clear();
    for (int number : numbers) {
      x.row(number);
    }
  }

  /** Says how it went and ends the machine with exit code 1 if an answer was wrong. */
  static void end() {
    System.out.println((asked - wrong) + " answers as due, " + wrong + " not");
    if (wrong != 0 || asked == 0) {
      System.exit(1);
    }
  }
}
