/** Promises 7 to 12, 46 and 47: what changes, what can be taken back, the image. */
public final class ChangeTest extends Due {
  public static void main(String[] args) {
    trusts();
    lights();
    gives();
    hours();
    nights();
    nightsThatLose();
    dawnAtMost999();
    hourAbove999();
    back();
    eightAtMost();
    whatLeavesNone();
    image();
    end();
  }

  private static void trusts() {
    FasterForTheRich x = of("p0430;p1350;p2240;");
    due("7: a COUSIN", x.trusts(0, 2), 1);
    due("7: that one", x.personOf(0, 7), 2);
    due("7: another", x.trusts(0, 1), 1);
    due("7: that one", x.personOf(0, 7), 1);
    due("7: back again", x.trusts(1, 0), 1);
    due("7: not any more", x.trusts(0, 1), 0);
    due("7: none", x.personOf(0, 7), -9);
    due("7: the other's stays", x.personOf(1, 7), 0);
    due("7: one twice", x.trusts(1, 1), -1);
    due("7: nobody", x.trusts(0, 3), -1);
    due("7: nobody either", x.trusts(3, 0), -1);
    due("7: nobody below", x.trusts(-1, 0), -1);
    due("7: nobody below either", x.trusts(0, -1), -1);
    due("7: -1 are counted", x.count(11), 5);
    due("7: the others can be taken back", x.count(8), 4);
  }

  private static void lights() {
    FasterForTheRich x = of("p0430;p1350;c100;");
    due("8: LIT", x.lights(0), 1);
    due("8: it is", x.count(2), 1);
    due("8: not any more", x.lights(0), 0);
    due("8: it is not", x.count(2), 0);
    due("8: CANDLE 0", x.lights(1), -3);
    due("8: nobody", x.lights(2), -1);
    due("8: nobody below", x.lights(-1), -1);
    due("8: -3 is counted", x.count(13), 1);
    due("8: PAGES come with hours alone", x.count(5), 0);
  }

  private static void gives() {
    FasterForTheRich x = of("p0430;p1350;p2240;");
    due("9: coins", x.gives(0, 1, 7), 57);
    due("9: less", x.personOf(0, 2), 23);
    due("9: none", x.gives(0, 1, 0), 57);
    due("9: none can be taken back too", x.count(8), 2);
    due("9: all", x.gives(0, 2, 23), 63);
    due("9: more than he HOLDS", x.gives(0, 1, 1), -6);
    due("9: below", x.gives(1, 0, -1), -4);
    due("9: one twice", x.gives(1, 1, 1), -1);
    due("9: nobody", x.gives(3, 1, 1), -1);
    due("9: nobody either", x.gives(1, 3, 1), -1);
    due("9: one twice ahead of below", x.gives(1, 1, -1), -1);
    due("9: far more", x.gives(1, 0, Integer.MAX_VALUE), -6);
    due("9: as told", x.count(3), 120);
    x = rich(999);
    due("9: the other's 999", x.personOf(0, 2), 999);
    x.sets(1, 0, 5);
    due("9: above 999", x.gives(1, 0, 1), -6);
    due("9: 0 is not above", x.gives(1, 0, 0), 999);
    due("9: back", x.gives(0, 1, 994), 999);
    due("9: 5 are left", x.personOf(0, 2), 5);
    due("9: one more is not", x.gives(0, 1, 1), -6);
  }

  /** 0 HOLDS so much; the others are a DEBTOR and a MISER of FIGURE 0. */
  private static FasterForTheRich rich(int coins) {
    FasterForTheRich x = of("p0000;p2000;p3000;");
    bring(x, 1, 0, coins);
    return x;
  }

  private static void hours() {
    FasterForTheRich x = of(SIX);
    due("10: one is LIT behind 1", x.hours(1), 1);
    due("10: CANDLE", x.personOf(0, 4), 46);
    due("10: it went out", x.personOf(4, 5), 0);
    due("10: in its last HOUR it was read by", x.personOf(4, 6), 1);
    due("10: who is not LIT keeps his", x.personOf(2, 4), 99);
    due("10: and reads none", x.personOf(2, 6), 0);
    due("10: HOUR", x.count(1), 1);
    due("10: HOLDS stay", x.count(3), 180);
    due("10: LIT till the last tenths", x.hours(11), 1);
    due("10: 2 tenths", x.personOf(0, 4), 2);
    due("10: then not", x.hours(1), 0);
    due("10: 0 at least", x.personOf(0, 4), 0);
    due("10: 13 PAGES", x.personOf(0, 6), 13);
    due("10: no more", x.hours(86), 0);
    due("10: 13 PAGES still", x.personOf(0, 6), 13);
    due("10: HOUR 99", x.count(1), 99);
    due("10: below", x.hours(0), -4);
    due("10: far below", x.hours(Integer.MIN_VALUE), -4);
    due("10: above", x.hours(100), -6);
    due("10: far above", x.hours(Integer.MAX_VALUE), -6);
    due("10: 99", x.hours(99), 0);
    due("10: HOUR 198", x.count(1), 198);
  }

  private static void nights() {
    FasterForTheRich x = of(SIX);
    due("11: PAGES", x.nights(5), 26);
    int[] holds = {30, 10, 20, 80, 30, 10};
    int[] candles = {45, 35, 94, 5, 0, 45};
    int[] pages = {5, 5, 5, 5, 1, 5};
    for (int i = 0; i < 6; i++) {
      due("11: HOLDS of " + i, x.personOf(i, 2), holds[i]);
      due("11: CANDLE of " + i, x.personOf(i, 4), candles[i]);
      due("11: PAGES of " + i, x.personOf(i, 6), pages[i]);
      due("11: LIT of " + i, x.personOf(i, 5), 0);
    }
    due("11: HOUR", x.count(1), 5);
    due("11: COUSINS stay", x.personOf(0, 7), 1);
    due("11: below", x.nights(0), -4);
    due("11: above", x.nights(13), -6);
    due("11: far above", x.nights(Integer.MAX_VALUE), -6);
    due("11: the greatest", x.nights(12) > 0 ? 1 : 0, 1);
    due("11: HOUR", x.count(1), 17);
  }

  // By numbers: 0 gives ahead of 1, so 1 gives what came from 0, too; who gives to a lesser one does not pass it on.
  private static void nightsThatLose() {
    FasterForTheRich x = rich(950);
    x.sets(1, 0, 80);
    x.trusts(1, 0);
    x.sets(0, 2, 9);
    due("11: the rich one burns in 1 HOUR", x.nights(3), 1 + 3 + 3);
    due("11: 80 given to one of 950, half back of one not HONEST", x.personOf(1, 2), 40);
    due("11: what is above 999 is lost", x.personOf(0, 2), 959);
    x = of("p3021;p3033;t01;t10;");
    due("11: a NIGHT", x.nights(1), 2);
    due("11: 0 gives 21, 1 gives 54: 1 gets 27", x.personOf(1, 2), 17);
    due("11: then 0 gets 10", x.personOf(0, 2), 37);
    x = of("p0905;p0903;p3000;t01;t12;");
    due("11: a NIGHT", x.nights(1), 3);
    due("11: 1 gets 4 of 8, 0 no more than these", x.personOf(0, 2), 4);
    due("11: 1 has none", x.personOf(1, 2), 0);
    due("11: 2 has half", x.personOf(2, 2), 4);
  }

  // 1 (a DEBTOR who is not HONEST) keeps half of 2's 99 and gets back all his 990 of 0 (an OWNER who is).
  private static void dawnAtMost999() {
    FasterForTheRich x = of("p0900;p2000;p3000;");
    bring(x, 2, 1, 990);
    x.sets(2, 0, 99);
    x.trusts(1, 0);
    x.trusts(2, 1);
    x.nights(1);
    due("11: 2 gets half", x.personOf(2, 2), 49);
    due("11: HOLDS are 999 at most at dawn, too", x.personOf(1, 2), 999);
    due("11: 0 gives all back", x.personOf(0, 2), 0);
  }

  private static void hourAbove999() {
    FasterForTheRich x = of("p0000;");
    for (int i = 0; i < 10; i++) {
      x.sets(0, 2, 99);
      if (x.personOf(0, 5) == 0) x.lights(0);
      x.hours(99);
    }
    due("10: HOUR 990", x.count(1), 990);
    due("10: PAGES 990", x.personOf(0, 6), 990);
    due("11: HOUR above 999", x.nights(10), -6);
    due("10: HOUR above 999", x.hours(10), -6);
    x.sets(0, 2, 99);
    due("11: HOUR 999", x.nights(9), 9);
    due("11: PAGES 999", x.personOf(0, 6), 999);
    due("10: not one more", x.hours(1), -6);
    due("11: not one more", x.nights(1), -6);
    due("10: below goes ahead", x.hours(0), -4);
    x.lights(0);
    due("13: PAGES 999 at most in mind", x.behind(0, 5, 1), 999);
    due("14: all PAGES in mind", x.all(5, 1), 999);
    due("13: the CANDLE goes on", x.behind(0, 5, 0), 85);
    due("21: no PAGES more", x.night(0, 5, 2), 0);
    due("22: no PAGES more of all", x.nightOfAll(5, 0), 0);
  }

  private static void back() {
    FasterForTheRich x = of(SIX);
    x.sets(0, 2, 40);
    x.trusts(4, 5);
    x.lights(1);
    x.gives(2, 3, 40);
    x.hours(3);
    x.nights(4);
    due("12: six", x.count(8), 6);
    due("12: the NIGHT", x.back(), 5);
    due("12: LIT as they were", x.count(2), 3);
    due("12: HOUR", x.count(1), 3);
    due("12: PAGES", x.count(5), 7);
    due("12: the HOURS", x.back(), 4);
    due("12: HOUR", x.count(1), 0);
    due("12: LIT as they were", x.count(2), 19);
    due("12: the coins", x.back(), 3);
    due("12: HOLDS", x.personOf(2, 2), 40);
    due("12: HOLDS", x.personOf(3, 2), 20);
    due("12: the light", x.back(), 2);
    due("12: LIT", x.personOf(1, 5), 0);
    due("12: the COUSIN", x.back(), 1);
    due("12: none", x.personOf(4, 7), -9);
    due("12: the CANDLE", x.back(), 0);
    due("12: as it was", x.personOf(0, 4), 50);
    due("12: none", x.back(), -3);
    due("12: counted", x.count(13), 1);
    x.sets(0, 2, 0);
    x.back();
    due("12: LIT again", x.personOf(0, 5), 1);
    x.sets(0, 2, 50);
    x.gives(0, 1, 0);
    x.hours(100);
    due("12: what stays as it is counts, what is refused does not", x.count(8), 2);
  }

  private static void eightAtMost() {
    FasterForTheRich x = of("p0400;");
    for (int v = 1; v <= 11; v++) x.sets(0, 0, v);
    due("12: 8", x.count(8), 8);
    for (int left = 7; left >= 0; left--) {
      due("12: still " + left, x.back(), left);
      due("12: HOLDS", x.personOf(0, 2), left + 3);
    }
    due("12: older ones no more", x.back(), -3);
    due("12: HOLDS stay", x.personOf(0, 2), 3);
    for (int v = 20; v <= 30; v++) x.sets(0, 0, v);
    x.back();
    x.sets(0, 0, 50);
    x.back();
    due("12: and on", x.personOf(0, 2), 29);
    due("12: 7 are left", x.count(8), 7);
  }

  private static void whatLeavesNone() {
    FasterForTheRich x = of("p0400;");
    x.sets(0, 0, 9);
    x.person(0, 0, 100);
    due("12: a refused one leaves it", x.count(8), 1);
    x.restore();
    due("12: a refused restore leaves it", x.count(8), 1);
    x.image();
    due("12: the image leaves it", x.count(8), 1);
    x.person(0, 0, 1);
    due("12: person() leaves none", x.count(8), 0);
    x.sets(0, 0, 9);
    x.restore();
    due("12: restore() leaves none", x.count(8), 0);
    due("12: none", x.back(), -3);
  }

  private static void image() {
    FasterForTheRich x = of(SIX);
    due("47: there is none", x.restore(), -3);
    x.hours(2);
    due("46: HOUR", x.image(), 2);
    x.feed(112);
    x.row(5);
    x.sets(0, 2, 1);
    x.sets(1, 1, 9);
    x.trusts(0, 1);
    x.lights(3);
    x.gives(2, 3, 40);
    x.nights(4);
    due("47: HOUR", x.restore(), 2);
    due("47: PEOPLE", x.count(0), 6);
    due("47: LIT", x.count(2), 1);
    due("47: HOLDS", x.personOf(2, 2), 40);
    due("47: HIDES", x.personOf(1, 3), 5);
    due("47: CANDLE", x.personOf(0, 4), 42);
    due("47: PAGES", x.personOf(0, 6), 2);
    due("47: COUSIN", x.personOf(0, 7), 1);
    due("47: letters stay", x.count(6), 1);
    due("47: the ROW stays", x.count(7), 1);
    due("47: REFUSALS stay", x.count(13), 1);
    due("47: none to take back", x.count(8), 0);
    x.hours(1);
    due("47: it can be restored again", x.restore(), 2);
    due("47: CANDLE again", x.personOf(0, 4), 42);
    x.hours(1);
    due("46: another", x.image(), 3);
    x.hours(5);
    due("47: that one", x.restore(), 3);
    imageOfNobody();
  }

  // What those who are gone had must be told of nobody, and be left to nobody who comes.
  private static void imageOfNobody() {
    FasterForTheRich x = new FasterForTheRich();
    due("46: of nobody", x.image(), 0);
    town(x, "p5309;p5309;h088;t01;l0;n02;l0;");
    due("47: of nobody", x.restore(), 0);
    int[] nothing = {0, 0, 0, 0, 0, 0};
    for (int what = 0; what < 6; what++) due("47: of nobody, count(" + what + ")", x.count(what), nothing[what]);
    due("47: nobody", x.personOf(0, 0), -1);
    due("47: one comes", x.person(0, 1, 2), 0);
    int[] first = {0, 1, 2, 0, 50, 0, 0, -9, 2, 1, 0};
    for (int what = 0; what < 11; what++) due("47: at first, what " + what, x.personOf(0, what), first[what]);
    due("47: HOLDS of one", x.count(3), 2);
  }
}
