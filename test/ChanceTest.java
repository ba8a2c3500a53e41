/** Promises 30, 31 and 45: two who halve a coin, drafts and lots. */
public final class ChanceTest extends Due {
  private static final long REFUSED = 4000000000000000000L;

  public static void main(String[] args) {
    halve();
    draft();
    refusedDrafts();
    lots();
    refusedLots();
    end();
  }

  private static void halve() {
    due("30: it is all the same", of("p0035;p0035;").halve(0, 1), 0);
    due("30: he would give, but for the other's", of("p0030;p0035;").halve(0, 1), 1);
    due("30: the other would", of("p0035;p0030;").halve(0, 1), 1);
    due("30: who HOLDS none gives none", of("p0030;p0000;").halve(0, 1), 10);
    due("30: nor has he his own back", of("p0000;p0030;").halve(0, 1), 1);
    due("30: 29 and 30", of("p0029;p0030;").halve(0, 1), 10);
    due("30: 30 and 29", of("p0030;p0029;").halve(0, 1), 1);
    due("30: both have none", of("p0000;p0000;").halve(0, 1), 0);
    due("30: PAUPERS", of("p5010;p5010;").halve(1, 0), 0);
    FasterForTheRich x = of("p0430;p5000;c000;");
    due("30: without a CANDLE", x.halve(0, 1), 0);
    due("30: one twice", x.halve(1, 1), -1);
    due("30: nobody", x.halve(2, 1), -1);
    due("30: nobody either", x.halve(0, 2), -1);
    due("30: nothing has changed", x.count(3), 30);
  }

  /** An OWNER who BURNS 4 with a CANDLE. */
  private static void oneDraft(int candle, int n, int t, long above, long below) {
    FasterForTheRich x = of("p0430;");
    x.sets(0, 2, candle);
    due("31: CANDLE " + candle + ", n " + n + ", t " + t + ", above", x.draft(0, n, t, 0), above);
    due("31: CANDLE " + candle + ", n " + n + ", t " + t + ", below", x.draft(0, n, t, 1), below);
  }

  private static void draft() {
    oneDraft(50, 0, 2, 1, 1);
    oneDraft(0, 0, 2, 0, 1);
    oneDraft(0, 8, 20, 0, 1);
    oneDraft(4, 1, 2, 0, 1);
    oneDraft(5, 1, 4, 3, 4);
    oneDraft(6, 1, 4, 3, 4);
    oneDraft(7, 1, 4, 1, 1);
    oneDraft(9, 2, 2, 1, 4);
    oneDraft(10, 2, 2, 1, 4);
    oneDraft(11, 2, 2, 3, 4);
    oneDraft(11, 2, 3, 8, 9);
    oneDraft(11, 2, 10, 99, 100);
    oneDraft(13, 2, 3, 1, 1);
    oneDraft(15, 3, 2, 1, 2);
    oneDraft(33, 8, 20, 16983563041L, 25600000000L);
    oneDraft(32, 8, 20, 0, 1);
    oneDraft(50, 8, 2, 1, 1);
    oneDraft(48, 8, 2, 255, 256);
    FasterForTheRich x = of("p0430;l0;");
    due("31: LIT now", x.draft(0, 1, 2, 0), 1);
  }

  private static void refusedDrafts() {
    FasterForTheRich x = of("p0430;");
    due("31: nobody", x.draft(1, 1, 2, 0), REFUSED + 1);
    due("31: n below", x.draft(0, -1, 2, 0), REFUSED + 4);
    due("31: t below", x.draft(0, 1, 1, 0), REFUSED + 4);
    due("31: n above", x.draft(0, 9, 2, 0), REFUSED + 6);
    due("31: t above", x.draft(0, 1, 21, 0), REFUSED + 6);
    due("31: part above", x.draft(0, 1, 2, 2), REFUSED + 2);
    due("31: part below", x.draft(0, 1, 2, -1), REFUSED + 2);
    due("31: nobody first", x.draft(1, -1, 21, 2), REFUSED + 1);
    due("31: below ahead of above", x.draft(0, 9, 1, 2), REFUSED + 4);
    due("31: below ahead of above, n", x.draft(0, -1, 21, 2), REFUSED + 4);
    due("31: above ahead of part", x.draft(0, 1, 21, 2), REFUSED + 6);
    int[] refusals = {2, 2, 0, 4, 0, 3};
    for (int i = 0; i < 6; i++) due("31: REFUSALS -" + (i + 1), x.count(11 + i), refusals[i]);
  }

  // From seed 1 draws below 60 are 38, 58, 33, 55, 31, 47, 30, 39, 12, 6.
  private static void lots() {
    FasterForTheRich x = of("p0499;c016;");
    due("45: PAGES of one", x.lots(1, 1, 0), 4);
    due("45: CANDLES of one", x.lots(1, 1, 1), 1);
    due("45: PAGES of ten", x.lots(10, 1, 0), 46);
    due("45: CANDLES of ten", x.lots(10, 1, 1), 9);
    due("45: a seed below 0", x.lots(1, -1, 0), 6);
    due("45: nothing has changed", x.count(3), 99);
    due("45: no HOUR has gone by", x.count(1), 0);
    x = of("p0400;p0400;c016;c116;");
    due("45: PAGES of two in turn", x.lots(5, 1, 0), 46);
    due("45: CANDLES of two in turn", x.lots(5, 1, 1), 9);
    x = of("p5000;p0400;c116;");
    due("45: by numbers", x.lots(5, 1, 0), 62);
    due("45: CANDLES", x.lots(5, 1, 1), 4);
    x = of("p5000;c005;");
    due("45: PAGES of 20", x.lots(20, 77, 0), 100);
    due("45: CANDLES of 20", x.lots(20, 77, 1), 20);
    x = of("p0400;p1000;t01;c016;");
    due("45: a NIGHT with its dusk: the one holds none", x.lots(1, 1, 0), 13);
    x = of("p5000;l0;");
    x.hours(5);
    due("45: PAGES more, not all", x.lots(2, 3, 0), 16);
    x = of("p0400;p1000;p0400;p1000;p0400;p1000;c009;c116;c220;c325;c413;c531;");
    int[] seeds = {12345, Integer.MIN_VALUE, Integer.MAX_VALUE, 0, 99};
    int[] pages = {587, 602, 604, 602, 607};
    int[] dark = {103, 105, 105, 105, 100};
    for (int i = 0; i < seeds.length; i++) {
      due("45: PAGES of seed " + seeds[i], x.lots(20, seeds[i], 0), pages[i]);
      due("45: CANDLES of seed " + seeds[i], x.lots(20, seeds[i], 1), dark[i]);
    }
    due("45: nobody", new FasterForTheRich().lots(20, 1, 0), 0);
  }

  private static void refusedLots() {
    FasterForTheRich x = of("p0499;");
    due("45: below", x.lots(0, 1, 0), -4);
    due("45: above", x.lots(21, 1, 0), -6);
    due("45: what above", x.lots(1, 1, 2), -2);
    due("45: what below", x.lots(1, 1, -1), -2);
    due("45: below ahead of what", x.lots(0, 1, 2), -4);
    due("45: above ahead of what", x.lots(21, 1, 2), -6);
  }
}
