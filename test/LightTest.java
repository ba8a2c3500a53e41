/** Promises 25, 26, 27, 32, 39, 40 and 41: light shared, taxed, hidden, and who has more or as much of it. */
public final class LightTest extends Due {
  public static void main(String[] args) {
    relay();
    tax();
    hide();
    shares();
    unlit();
    gap();
    same();
    end();
  }

  private static void relay() {
    FasterForTheRich x = of(SIX);
    due("25: RELAY", x.relay(0), 125);
    due("25: PAIRED, half, cut", x.relay(1), 62);
    due("25: what above", x.relay(2), -2);
    due("25: what below", x.relay(-1), -2);
    x = of("p5000;p5000;c010;c105;");
    due("25: RELAY of two", x.relay(0), 15);
    due("25: PAIRED, all but the longest", x.relay(1), 5);
    x = of("p5000;");
    due("25: RELAY of one", x.relay(0), 50);
    due("25: PAIRED alone", x.relay(1), 0);
    x.sets(0, 2, 0);
    due("25: PAIRED without light", x.relay(1), 0);
    due("25: RELAY without light", x.relay(0), 0);
    due("25: PAIRED without PEOPLE", new FasterForTheRich().relay(1), 0);
  }

  private static void tax() {
    FasterForTheRich x = of(SIX);
    due("26: all", x.tax(3, 0), 96);
    due("26: PAYS", x.tax(3, 1), 3);
    due("26: t 9", x.tax(9, 0), 288);
    due("26: t 0", x.tax(0, 0), 0);
    due("26: t 0, the least PAYS", x.tax(0, 1), 0);
    due("26: below", x.tax(-1, 0), -4);
    due("26: above", x.tax(10, 0), -6);
    due("26: what above", x.tax(3, 2), -2);
    due("26: what below", x.tax(3, -1), -2);
    due("26: below ahead of what", x.tax(-1, 2), -4);
    due("26: above ahead of what", x.tax(10, 2), -6);
    x = of("p5000;p0020;p0029;p0010;");
    due("26: of several the least", x.tax(2, 1), 1);
    x = new FasterForTheRich();
    due("26: of nobody", x.tax(9, 0), 0);
    due("26: nobody PAYS", x.tax(9, 1), -9);
  }

  // What is moved makes nobody poorer, whatever his kind: the fewest are 0.
  private static void hide() {
    FasterForTheRich x = of(SIX);
    for (int i = 0; i < 6; i++) due("27: HIDE of " + i, x.hide(i), 0);
    due("27: nobody", x.hide(6), -1);
    due("27: nobody below", x.hide(-1), -1);
    x = of("p0099;p1099;p2099;p3099;p4099;p5099;h099;h198;h202;h301;h450;");
    for (int i = 0; i < 6; i++) due("27: HIDE of " + i, x.hide(i), 0);
    due("27: nothing has changed", x.count(3), 594);
  }

  private static void shares() {
    FasterForTheRich x = of(SIX);
    due("32: SHARES", x.shares(0), 50);
    due("32: nothing left over", x.shares(1), 0);
    x.sets(2, 2, 98);
    due("32: SHARES, cut", x.shares(0), 49);
    due("32: left over", x.shares(1), 5);
    due("32: what above", x.shares(2), -2);
    due("32: what below", x.shares(-1), -2);
    x = new FasterForTheRich();
    due("32: without PEOPLE", x.shares(0), 0);
    due("32: without PEOPLE, left over", x.shares(1), 0);
  }

  private static void unlit() {
    FasterForTheRich x = of(SIX);
    due("39: UNLIT", x.unlit(), 46);
    x.sets(1, 2, 0);
    due("39: CANDLE 0 is not", x.unlit(), 44);
    x.lights(5);
    due("39: who is LIT is not", x.unlit(), 12);
    x.lights(0);
    due("39: who is LIT no more is", x.unlit(), 13);
    x.sets(3, 2, 1);
    due("39: CANDLE 1 is", x.unlit(), 13);
    due("39: nobody", new FasterForTheRich().unlit(), 0);
  }

  private static void gap() {
    FasterForTheRich x = of(SIX);
    due("40: GAP", x.gap(5), 4);
    due("40: GAP, 12", x.gap(12), 4);
    due("40: all alike, the least", x.gap(1), 0);
    due("40: nothing has changed", x.personOf(4, 4), 1);
    x.sets(4, 2, 99);
    due("40: the MISER's 6 of 9 a time", x.gap(12), 3);
    due("40: below", x.gap(0), -4);
    due("40: above", x.gap(13), -6);
    x = of("p5000;p0080;c002;c101;");
    due("40: by 99, not by 100, 11 of 12: 10 more, as the other", x.gap(12), 0);
    x.sets(1, 2, 0);
    due("40: 11 more", x.gap(12), 1);
    x = of("p5000;p5000;p5000;c102;c202;");
    due("40: of several the least", x.gap(5), 1);
    due("40: nobody", new FasterForTheRich().gap(5), -9);
  }

  private static void same() {
    FasterForTheRich x = of(SIX);
    due("41: one two", x.same(), 1);
    x.sets(2, 2, 98);
    due("41: none", x.same(), 0);
    x = of("p5000;p0009;p5700;p0010;");
    due("41: three twos of three", x.same(), 3);
    x.sets(3, 2, 99);
    due("41: by LASTS, not by CANDLES", x.same(), 6);
    due("41: nobody", new FasterForTheRich().same(), 0);
  }
}
