/** Promises 21 to 24: a night in mind, whom to trust, who is safe. */
public final class NightTest extends Due {
  public static void main(String[] args) {
    night();
    nightOfAll();
    trust();
    trustNotTheLeast();
    safe();
    end();
  }

  private static void night() {
    FasterForTheRich x = of(SIX);
    int[] holds = {30, 10, 20, 80, 30, 10};
    int[] candles = {45, 35, 94, 5, 0, 45};
    int[] pages = {5, 5, 5, 5, 1, 5};
    int[] candlesBehind1 = {49, 47, 98, 41, 0, 49};
    for (int i = 0; i < 6; i++) {
      due("21: HOLDS of " + i, x.night(i, 5, 0), holds[i]);
      due("21: CANDLE of " + i, x.night(i, 5, 1), candles[i]);
      due("21: PAGES of " + i, x.night(i, 5, 2), pages[i]);
      due("21: CANDLE of " + i + " behind 1", x.night(i, 1, 1), candlesBehind1[i]);
      due("21: HOLDS stay", x.personOf(i, 6), 0);
    }
    due("21: nothing has changed", x.count(1), 0);
    due("21: the same are LIT", x.count(2), 17);
    due("21: the same HOLDS", x.personOf(3, 2), 20);
    x.hours(2);
    due("21: PAGES more, not all", x.night(0, 5, 2), 5);
    due("21: nobody", x.night(6, 5, 0), -1);
    due("21: below", x.night(0, 0, 0), -4);
    due("21: above", x.night(0, 13, 0), -6);
    due("21: what above", x.night(0, 5, 3), -2);
    due("21: what below", x.night(0, 5, -1), -2);
    due("21: nobody first", x.night(-1, 0, 3), -1);
    due("21: below ahead of what", x.night(0, 0, 3), -4);
    due("21: above ahead of what", x.night(0, 13, 3), -6);
  }

  private static void nightOfAll() {
    FasterForTheRich x = of(SIX);
    due("22: PAGES", x.nightOfAll(5, 0), 26);
    due("22: PAGES of 1", x.nightOfAll(1, 0), 6);
    due("22: nothing is lost", x.nightOfAll(5, 1), 0);
    x = of("p0000;p2000;");
    for (int i = 0; i < 10; i++) {
      x.sets(1, 0, 95);
      x.gives(1, 0, 95);
    }
    x.sets(1, 0, 80);
    x.trusts(1, 0);
    due("22: what is above 999 is lost", x.nightOfAll(1, 1), 31);
    due("22: nothing has changed", x.count(3), 1030);
    due("22: below", x.nightOfAll(0, 0), -4);
    due("22: above", x.nightOfAll(13, 0), -6);
    due("22: what above", x.nightOfAll(5, 2), -2);
    due("22: what below", x.nightOfAll(5, -1), -2);
    due("22: below ahead of what", x.nightOfAll(0, 2), -4);
    x = of("p0000;p5000;c000;");
    due("22: CANDLE 0 is not LIT at dusk", x.nightOfAll(5, 0), 5);
    due("21: who has none reads none", x.night(0, 5, 2), 0);
    x = new FasterForTheRich();
    due("22: nobody loses", x.nightOfAll(12, 1), 0);
  }

  private static void trust() {
    FasterForTheRich x = of(SIX);
    due("23: the least of all as good", x.trust(3, 12), 0);
    due("23: none is as good", x.trust(3, 2), 9);
    due("23: none is not", x.trust(3, 3), 0);
    due("23: none for a PAUPER", x.trust(5, 12), 9);
    due("23: none for the first", x.trust(0, 12), 9);
    due("23: 1, 12 HOURS", x.trust(1, 12), 0);
    due("23: 1, 5 HOURS", x.trust(1, 5), 9);
    due("23: his COUSIN stays", x.personOf(3, 7), 5);
    due("23: nobody", x.trust(6, 5), -1);
    due("23: below", x.trust(0, 0), -4);
    due("23: above", x.trust(0, 13), -6);
    due("23: nobody first", x.trust(6, 0), -1);
    x = of("p0499;");
    due("23: alone", x.trust(0, 12), -9);
    due("23: alone, refused", x.trust(0, 13), -6);
  }

  // 1 gives 0 all: what 0 gives 1 comes back to him at dusk, what he gives 2 does not.
  private static void trustNotTheLeast() {
    FasterForTheRich x = of("p0050;p0010;p0000;t10;");
    due("23: not who gives it back", x.trust(0, 12), 2);
    x = of("p0050;p5000;c001;c103;");
    due("23: of two in 1 HOUR none", x.trust(0, 1), 9);
    x.sets(0, 2, 3);
    due("23: of two, the other", x.trust(0, 3), 1);
    due("23: the other none", x.trust(1, 3), 9);
    x = of("p0050;p0010;p0000;t10;");
    due("23: 8 HOURS: none", x.trust(0, 8), 9);
    due("23: 9 HOURS", x.trust(0, 9), 2);
  }

  private static void safe() {
    FasterForTheRich x = of(SIX);
    due("24: of 1", x.safe(1, 5), 49);
    due("24: of 3", x.safe(3, 5), 51);
    due("24: whatever HOURS", x.safe(1, 12), 49);
    due("24: his COUSIN stays", x.personOf(1, 7), 3);
    due("24: nobody", x.safe(6, 5), -1);
    due("24: below", x.safe(0, 0), -4);
    due("24: above", x.safe(0, 13), -6);
    due("24: nobody first", x.safe(-1, 13), -1);
    x = of("p0400;p3000;p0300;p0500;");
    due("24: who HOLDS none loses nothing by anyone", x.safe(0, 1), 14);
    x.sets(0, 0, 1);
    due("24: half of 1 is none", x.safe(0, 1), 8);
  }
}
