/** Promises 13 to 20: hours on in mind, how long candles last, coins given or had in mind. */
public final class MindTest extends Due {
  public static void main(String[] args) {
    behind();
    all();
    lasts();
    longest();
    longestOfSeveral();
    give();
    bestFriend();
    both();
    borrow();
    end();
  }

  private static void behind() {
    FasterForTheRich x = of(SIX);
    due("13: CANDLE now", x.behind(0, 0, 0), 50);
    due("13: PAGES now", x.behind(0, 0, 1), 0);
    due("13: LIT now", x.behind(0, 0, 2), 1);
    due("13: CANDLE behind 12", x.behind(0, 12, 0), 2);
    due("13: LIT behind 12", x.behind(0, 12, 2), 1);
    due("13: CANDLE behind 13", x.behind(0, 13, 0), 0);
    due("13: not LIT behind 13", x.behind(0, 13, 2), 0);
    due("13: PAGES behind 13", x.behind(0, 13, 1), 13);
    due("13: PAGES behind 99", x.behind(0, 99, 1), 13);
    due("13: who is not LIT burns not", x.behind(2, 99, 0), 99);
    due("13: and reads not", x.behind(2, 99, 1), 0);
    due("13: and stays so", x.behind(2, 99, 2), 0);
    due("13: nothing has changed", x.count(1), 0);
    due("13: nothing has changed", x.personOf(0, 4), 50);
    due("13: nobody", x.behind(6, 5, 0), -1);
    due("13: below", x.behind(0, -1, 0), -4);
    due("13: above", x.behind(0, 100, 0), -6);
    due("13: what above", x.behind(0, 5, 3), -2);
    due("13: what below", x.behind(0, 5, -1), -2);
    due("13: nobody first", x.behind(6, -1, 3), -1);
    due("13: below ahead of what", x.behind(0, -1, 3), -4);
    due("13: above ahead of what", x.behind(0, 100, 3), -6);
  }

  private static void all() {
    FasterForTheRich x = of(SIX);
    due("14: LIT now", x.all(0, 0), 2);
    due("14: PAGES now", x.all(0, 1), 0);
    due("14: LIT behind 1", x.all(1, 0), 1);
    due("14: PAGES behind 1", x.all(1, 1), 2);
    due("14: LIT behind 12", x.all(12, 0), 1);
    due("14: LIT behind 13", x.all(13, 0), 0);
    due("14: PAGES behind 99", x.all(99, 1), 14);
    due("14: nothing has changed", x.count(5), 0);
    due("14: below", x.all(-1, 0), -4);
    due("14: above", x.all(100, 0), -6);
    due("14: what above", x.all(5, 2), -2);
    due("14: what below", x.all(5, -1), -2);
    due("14: below ahead of what", x.all(-1, 2), -4);
    due("14: above ahead of what", x.all(100, 2), -6);
  }

  private static void lasts() {
    FasterForTheRich x = of(SIX);
    int[] lasts = {13, 7, 50, 4, 1, 50};
    for (int i = 0; i < 6; i++) due("15: LASTS of " + i, x.lasts(i), lasts[i]);
    x.sets(5, 2, 99);
    due("15: 99 at most", x.lasts(5), 99);
    x.sets(5, 2, 0);
    due("15: CANDLE 0", x.lasts(5), 0);
    x.sets(0, 2, 48);
    due("15: to the tenth", x.lasts(0), 12);
    x.sets(0, 2, 49);
    due("15: one tenth more", x.lasts(0), 13);
    due("15: nobody", x.lasts(6), -1);
    due("15: nobody below", x.lasts(-1), -1);
  }

  private static void longest() {
    FasterForTheRich x = of(SIX);
    due("16: LONGEST, of several the least", x.longest(0), 2);
    due("16: how long", x.longest(1), 50);
    due("16: DARK", x.longest(2), 13);
    due("16: GUTTERS", x.longest(3), 4);
    x.lights(4);
    due("16: GUTTERS of those LIT now", x.longest(3), 0);
    x.lights(0);
    due("16: DARK at once", x.longest(2), 0);
    due("16: nobody GUTTERS", x.longest(3), -9);
    due("16: LONGEST though unlit", x.longest(0), 2);
    x.sets(5, 2, 99);
    due("16: 99", x.longest(1), 99);
    x.lights(5);
    due("16: DARK behind 99", x.longest(2), 99);
    due("16: what above", x.longest(4), -2);
    due("16: what below", x.longest(-1), -2);
    x = new FasterForTheRich();
    int[] nobody = {-9, -9, 0, -9};
    for (int what = 0; what < 4; what++) due("16: nobody, what " + what, x.longest(what), nobody[what]);
  }

  private static void longestOfSeveral() {
    FasterForTheRich x = of("p5000;p5000;p5000;c020;l1;l2;");
    due("16: GUTTERS, of several the least", x.longest(3), 1);
    x.lights(1);
    x.sets(2, 2, 99);
    due("16: GUTTERS behind 99", x.longest(3), 2);
    x = of("p5000;p5000;p5000;c020;");
    due("16: LONGEST, of several the least", x.longest(0), 1);
    x = of("p0000;c000;");
    due("16: LONGEST with CANDLE 0", x.longest(0), 0);
    due("16: how long", x.longest(1), 0);
  }

  private static void give() {
    FasterForTheRich x = of(SIX);
    int[] hours = {1, 13, 14, 17, 18, 25, 26, 50, 51, 99};
    int[] coins = {0, 0, 1, 1, 11, 11, 21, 21, -9, -9};
    for (int i = 0; i < hours.length; i++) due("17: for " + hours[i], x.give(0, 1, hours[i]), coins[i]);
    due("17: a MISER, 4", x.give(3, 0, 4), 0);
    due("17: a MISER, 5", x.give(3, 0, 5), 1);
    due("17: a MISER, 6", x.give(3, 0, 6), 16);
    due("17: a MISER, what he hides stays", x.give(3, 0, 7), -9);
    due("17: a DEBTOR", x.give(2, 0, 51), 17);
    due("17: a DEBTOR with no more to win", x.give(2, 0, 99), 17);
    due("17: nothing has changed", x.count(3), 180);
    due("17: one twice", x.give(1, 1, 5), -1);
    due("17: nobody", x.give(6, 1, 5), -1);
    due("17: nobody either", x.give(1, 6, 5), -1);
    due("17: below", x.give(0, 1, 0), -4);
    due("17: above", x.give(0, 1, 100), -6);
    due("17: one twice first", x.give(0, 0, 0), -1);
    x = of("p0020;p0000;c001;");
    due("17: all he HOLDS at the most", x.give(0, 1, 1), 0);
    due("17: more than his CANDLE has", x.give(0, 1, 2), -9);
    x = of("p0010;p0000;c010;");
    due("17: 5 HOURS with all of it", x.give(0, 1, 5), 0);
    due("17: 1 coin", x.give(0, 1, 10), 1);
    x = of("p0010;p0000;h009;");
    due("17: to the last coin", x.give(0, 1, 50), 10);
    x = of("p0010;p0000;h010;");
    due("17: what he hides stays", x.give(0, 1, 50), -9);
  }

  private static void bestFriend() {
    FasterForTheRich x = of(SIX);
    due("18: to the PAUPER", x.bestFriend(0, 0), 5);
    due("18: that", x.bestFriend(0, 1), 100);
    due("18: of the PAUPER", x.bestFriend(5, 0), 2);
    due("18: that", x.bestFriend(5, 1), 83);
    due("18: nobody", x.bestFriend(6, 0), -1);
    due("18: what above", x.bestFriend(0, 2), -2);
    due("18: what below", x.bestFriend(0, -1), -2);
    due("18: nobody first", x.bestFriend(-1, 2), -1);
    x = of("p0400;");
    due("18: alone", x.bestFriend(0, 0), -9);
    due("18: alone, that", x.bestFriend(0, 1), -9);
    x = of("p0455;p5000;p5100;c000;c100;c200;");
    due("18: of several the least", x.bestFriend(0, 0), 1);
    due("18: that is 0", x.bestFriend(0, 1), 0);
    due("18: of several the least, himself left out", x.bestFriend(1, 0), 0);
    x = of("p0060;p5000;h009;c150;");
    due("18: he gives to the last coin", x.bestFriend(0, 1), 100);
  }

  private static void both() {
    FasterForTheRich x = of(SIX);
    due("19: none", x.both(0, 1, 0), 0);
    due("19: that", x.both(0, 1, 1), 7);
    due("19: coins", x.both(1, 0, 0), 16);
    due("19: that", x.both(1, 0, 1), 9);
    due("19: to a PAUPER", x.both(0, 5, 0), 21);
    due("19: that", x.both(0, 5, 1), 50);
    due("19: one twice", x.both(1, 1, 0), -1);
    due("19: nobody", x.both(6, 1, 0), -1);
    due("19: nobody either", x.both(1, 6, 0), -1);
    due("19: what above", x.both(1, 0, 2), -2);
    due("19: what below", x.both(1, 0, -1), -2);
    due("19: one twice first", x.both(1, 1, 2), -1);
    x = of("p0010;p5000;");
    due("19: all but 9", x.both(0, 1, 0), 1);
    x.sets(0, 2, 0);
    due("19: the fewest where it is all the same", x.both(0, 1, 0), 0);
    due("19: that is 0", x.both(0, 1, 1), 0);
    x = of("p0010;p5000;h009;");
    due("19: to the last coin", x.both(0, 1, 0), 10);
  }

  private static void borrow() {
    FasterForTheRich x = of(SIX);
    int[] less = {3, 1, 17, 0, 0, 0};
    for (int i = 0; i < 6; i++) due("20: BORROW of " + i, x.borrow(i), less[i]);
    x.sets(0, 0, 39);
    due("20: 10 more of 39", x.borrow(0), 3);
    x.sets(0, 0, 29);
    x.sets(3, 0, 0);
    due("20: 10 more, not 11", x.borrow(0), 4);
    due("20: a MISER's", x.borrow(3), 1);
    x.sets(0, 0, 30);
    x.sets(3, 0, 20);
    due("20: nobody", x.borrow(6), 1000000001);
    due("20: nobody below", x.borrow(-1), 1000000001);
    due("20: counted as -1", x.count(11), 2);
    due("20: nothing has changed", x.count(3), 180);
  }
}
