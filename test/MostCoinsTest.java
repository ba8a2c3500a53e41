/**
 * Promises 18, 19, 20, 29 and 30: in mind too nobody HOLDS more than 999. A DEBTOR of FIGURE 0 shows it, for his WEALTH
 * is half: with 999 he BURNS 50, with 1000 he would BURN 51; an HEIR shows it likewise.
 */
public final class MostCoinsTest extends Due {
  public static void main(String[] args) {
    bestFriend();
    both();
    borrow();
    whoGave();
    halve();
    halveAtOnce();
    end();
  }

  /** 0 is a DEBTOR with such a CANDLE who HOLDS that much, 1 an OWNER who HOLDS what is told, 2 an OWNER with none. */
  private static FasterForTheRich debtor(int candle, int coins, int ownersCoins) {
    FasterForTheRich x = of("p2000;p0000;p0000;");
    bring(x, 1, 0, coins);
    x.sets(0, 2, candle);
    x.sets(1, 0, ownersCoins);
    due("HOLDS", x.personOf(0, 2), coins);
    return x;
  }

  /** Likewise an HEIR who HIDES 5: with 999 he BURNS 53, with 1009 he would BURN 54. */
  private static FasterForTheRich heir(int candle, int coins, int ownersCoins) {
    FasterForTheRich x = of("p4000;p0000;h005;");
    bring(x, 1, 0, coins);
    x.sets(0, 2, candle);
    x.sets(1, 0, ownersCoins);
    return x;
  }

  private static void bestFriend() {
    FasterForTheRich x = debtor(51, 999, 90);
    due("18: 2 lasts 5 by 90", x.bestFriend(1, 1), 55);
    x.sets(2, 2, 20);
    due("18: of several the least, by 999", x.bestFriend(1, 0), 0);
    due("18: 2 and 50", x.bestFriend(1, 1), 52);
    x = debtor(51, 909, 90);
    x.sets(2, 2, 20);
    due("18: to 999 all counts", x.bestFriend(1, 1), 52);
    x = debtor(50, 908, 90);
    x.sets(2, 2, 9);
    due("18: to 998 all counts", x.bestFriend(1, 1), 51);
    x = heir(54, 999, 10);
    due("18: an HEIR", x.bestFriend(1, 1), 52);
    due("18: what is in mind changes nothing", x.personOf(0, 2), 999);
  }

  private static void both() {
    FasterForTheRich x = debtor(51, 999, 90);
    x.sets(1, 2, 10);
    due("19: the coins", x.both(1, 0, 0), 1);
    due("19: that", x.both(1, 0, 1), 2);
    x = debtor(51, 998, 90);
    x.sets(1, 2, 9);
    due("19: the first coin makes 999, the others are lost", x.both(1, 0, 0), 11);
    due("19: that", x.both(1, 0, 1), 2);
    x = heir(54, 999, 29);
    x.sets(1, 2, 3);
    due("19: an HEIR", x.both(1, 0, 0), 10);
    due("19: that", x.both(1, 0, 1), 2);
  }

  private static void borrow() {
    due("20: 990", debtor(51, 990, 0).borrow(0), 0);
    due("20: 999", debtor(51, 999, 0).borrow(0), 0);
    due("20: 989", debtor(51, 989, 0).borrow(0), 0);
    due("20: 979 becomes 989", debtor(50, 979, 0).borrow(0), 1);
    due("20: 971 becomes 981", debtor(50, 971, 0).borrow(0), 1);
    due("20: 969 becomes 979", debtor(50, 969, 0).borrow(0), 0);
    due("20: an HEIR", heir(54, 999, 0).borrow(0), 0);
  }

  private static void whoGave() {
    FasterForTheRich x = debtor(51, 999, 90);
    row(x, 51, 1);
    due("29: by 999", x.whoGave(0), 6);
    row(x, 51, 0);
    due("29: not by 1089", x.whoGave(0), 0);
    x = debtor(99, 909, 90);
    row(x, 99, 49);
    due("29: 909 and 90", x.whoGave(0), 2);
    row(x, 99, 53);
    due("29: 909 and none", x.whoGave(0), 4);
    x = heir(54, 999, 99);
    row(x, 54, 1);
    due("29: an HEIR", x.whoGave(0), 2);
  }

  private static void halve() {
    FasterForTheRich x = debtor(51, 999, 10);
    due("30: a coin given him is lost", x.halve(0, 1), 1);
    due("30: told the other way", x.halve(1, 0), 1);
    x = debtor(51, 998, 10);
    due("30: 999 are no more", x.halve(0, 1), 1);
    x = debtor(51, 999, 9);
    due("30: neither gives", x.halve(0, 1), 0);
  }

  // With 1 that he HIDES he BURNS 51 by 999, 50 by 998: who gives one and gets one HOLDS 999 still, not 998.
  private static void halveAtOnce() {
    FasterForTheRich x = debtor(51, 999, 10);
    x.sets(0, 1, 1);
    due("30: at once", x.halve(0, 1), 1);
    x.sets(1, 0, 0);
    due("30: the other has none", x.halve(0, 1), 10);
  }
}
