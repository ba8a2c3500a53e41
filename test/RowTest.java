/** Promises 28, 29, 42, 43 and 44: the row, and what is told by it. */
public final class RowTest extends Due {
  public static void main(String[] args) {
    row();
    judge();
    clear();
    whatHeHolds();
    figures();
    rowsOfAllSorts();
    whoGave();
    end();
  }

  private static void row() {
    FasterForTheRich x = new FasterForTheRich();
    due("42: below", x.row(-1), -4);
    due("42: above", x.row(100), -6);
    due("42: none came", x.count(7), 0);
    due("42: the least", x.row(0), 1);
    due("42: the greatest", x.row(99), 2);
    for (int i = 3; i <= 12; i++) due("42: number " + i, x.row(i), i);
    due("42: no room", x.row(5), -6);
    due("42: below ahead of room", x.row(-1), -4);
    due("42: 12", x.count(7), 12);
  }

  private static void judge() {
    FasterForTheRich x = of(SIX);
    due("43: no ROW", x.judge(), -9);
    row(x, 50, 50, 99);
    due("43: so far as it goes", x.judge(), -9);
    due("43: none then", x.count(7), 0);
    row(x, 50, 51, 98);
    due("43: the first that is not so", x.judge(), 1);
    due("43: none then", x.count(7), 0);
    row(x, 51);
    due("43: 0", x.judge(), 0);
    row(x, 50, 50, 99, 50, 1, 50);
    due("43: all", x.judge(), -9);
    row(x, 50, 50, 99, 50, 1, 50, 0);
    due("43: nobody there", x.judge(), 6);
    row(x, 50, 50, 99, 50, 1, 50, 50, 50, 50, 50, 50, 50);
    due("43: nobody there, of 12", x.judge(), 6);
    row(x, 50, 50, 99, 50, 1, 49, 0);
    due("43: the last one", x.judge(), 5);
    x = new FasterForTheRich();
    row(x, 0);
    due("43: nobody at all", x.judge(), 0);
  }

  private static void clear() {
    FasterForTheRich x = new FasterForTheRich();
    due("44: none", x.clear(), 0);
    x.row(1);
    x.row(2);
    due("44: two", x.clear(), 2);
    due("44: none then", x.count(7), 0);
    due("44: none again", x.clear(), 0);
    due("44: a new one", x.row(3), 1);
  }

  private static void whatHeHolds() {
    FasterForTheRich x = of(SIX);
    due("28: no ROW: all", x.whatHeHolds(0, 0), 100);
    due("28: no ROW: the least", x.whatHeHolds(0, 1), 0);
    due("28: no ROW: KINDS", x.whatHeHolds(0, 2), 63);
    due("28: no ROW: FIGURES", x.whatHeHolds(0, 3), 1023);
    row(x, 50, 46);
    due("28: 30 .. 39", x.whatHeHolds(0, 0), 10);
    due("28: the least", x.whatHeHolds(0, 1), 30);
    due("28: an OWNER or an HEIR", x.whatHeHolds(0, 2), 17);
    due("28: whatever FIGURE", x.whatHeHolds(0, 3), 1023);
    due("28: the ROW stays", x.count(7), 2);
    row(x, 50, 42);
    due("28: a LORD who is not LIT, as if", x.whatHeHolds(1, 0), 10);
    due("28: the least", x.whatHeHolds(1, 1), 45);
    due("28: a LORD alone", x.whatHeHolds(1, 2), 2);
    row(x, 50, 37);
    due("28: a MISER", x.whatHeHolds(3, 0), 5);
    due("28: the least", x.whatHeHolds(3, 1), 20);
    due("28: a MISER alone", x.whatHeHolds(3, 2), 8);
    row(x, 50, 49);
    due("28: a PAUPER, whatever he HOLDS", x.whatHeHolds(5, 0), 100);
    due("28: a DEBTOR or a PAUPER", x.whatHeHolds(5, 2), 36);
    due("28: whatever FIGURE", x.whatHeHolds(5, 3), 1023);
    due("28: nobody", x.whatHeHolds(6, 0), -1);
    due("28: what above", x.whatHeHolds(0, 4), -2);
    due("28: what below", x.whatHeHolds(0, -1), -2);
    due("28: nobody first", x.whatHeHolds(-1, 4), -1);
  }

  private static void figures() {
    FasterForTheRich x = of(SIX);
    row(x, 99, 97, 95);
    due("28: a DEBTOR's FIGURES 1 .. 9", x.whatHeHolds(2, 3), 1022);
    row(x, 99, 96);
    due("28: FIGURE 0", x.whatHeHolds(2, 3), 1);
    row(x, 99, 98);
    due("28: no FIGURE", x.whatHeHolds(2, 3), 0);
    due("28: HOLDS below 20 and more by FIGURE 2", x.whatHeHolds(2, 0), 24);
    due("28: 0 is the least", x.whatHeHolds(2, 1), 0);
  }

  private static void rowsOfAllSorts() {
    FasterForTheRich x = of(SIX);
    row(x, 49, 45);
    int[] none = {0, -9, 0, 0};
    for (int what = 0; what < 4; what++) due("28: not his CANDLE, what " + what, x.whatHeHolds(0, what), none[what]);
    row(x, 50, 46, 43);
    for (int what = 0; what < 4; what++) due("28: no such HOURS, what " + what, x.whatHeHolds(0, what), none[what]);
    row(x, 1, 0, 0, 0);
    due("28: 0 at least, and on", x.whatHeHolds(4, 0), 100);
    row(x, 50, 0);
    due("28: 0 tells no more than that much", x.whatHeHolds(3, 0), 0);
    x.sets(3, 1, 99);
    due("28: 1 plus a fifth of 198 and more is 50", x.whatHeHolds(3, 1), 47);
    due("28: 47 .. 99", x.whatHeHolds(3, 0), 53);
    row(x, 99, 93);
    due("28: 97 .. 99 by FIGURE 1 less", x.whatHeHolds(2, 0), 0);
    x.sets(2, 1, 5);
    due("28: 99 alone", x.whatHeHolds(2, 0), 1);
    due("28: 99", x.whatHeHolds(2, 1), 99);
    x.hours(1);
    row(x, 46, 42);
    due("28: CANDLE as it is now", x.whatHeHolds(0, 0), 10);
  }

  private static void whoGave() {
    FasterForTheRich x = of(SIX);
    due("29: no ROW: all others", x.whoGave(0), 62);
    row(x, 50, 41);
    due("29: the LORD's 50", x.whoGave(0), 2);
    due("29: the ROW stays", x.count(7), 2);
    row(x, 50, 42);
    due("29: the DEBTOR's 40", x.whoGave(0), 4);
    row(x, 50, 46);
    due("29: by what he HOLDS now nobody", x.whoGave(0), 0);
    x.sets(5, 0, 9);
    x.sets(1, 0, 0);
    due("29: by none or by 9", x.whoGave(0), 34);
    row(x, 50, 49);
    due("29: to the PAUPER, whoever it was", x.whoGave(5), 31);
    row(x, 49);
    due("29: not his CANDLE", x.whoGave(0), 0);
    due("29: nobody", x.whoGave(6), -1);
    due("29: nobody below", x.whoGave(-1), -1);
    due("29: alone", of("p0000;").whoGave(0), 0);
  }
}
