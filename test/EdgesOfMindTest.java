/** The edges of promises 13 to 24: hours on, coins and nights in mind. */
public final class EdgesOfMindTest extends Edges {
  private static final String TWO = "p0000;p0000;";
  // Two PAUPERS by HOUR 990: the first has read 990 PAGES, the other none.
  private static final String READER = "p5000;p5000;";
  private static final String TILL_990 = "10 times sets 0 2 99, lights 0, hours 99";

  public static void main(String[] args) {
    behind();
    behindRefused();
    all();
    lasts();
    longest();
    dark();
    gutters();
    give();
    giveRefused();
    bestFriend();
    both();
    borrow();
    night();
    nightOfAll();
    trust();
    safe();
    end();
  }

  private static void behind() {
    edge("13: 0 HOURS on", "p0030;l0;", "behind 0 0 0 = 50", "behind 0 0 1 = 0", "behind 0 0 2 = 1");
    edge("13: 99 HOURS on", "p5000;c099;l0;", "behind 0 98 0 = 1", "behind 0 99 0 = 0", "behind 0 99 1 = 99",
        "behind 0 98 2 = 1", "behind 0 99 2 = 0");
    edge("13: CANDLE 0 at least", "p0030;l0;", "behind 0 12 0 = 2", "behind 0 13 0 = 0", "behind 0 14 0 = 0");
    edge("13: LIT no more at 0", "p0030;c008;l0;", "behind 0 1 2 = 1", "behind 0 2 2 = 0", "behind 0 3 2 = 0");
    edge("13: no PAGES more at 0", "p0030;c008;l0;", "behind 0 2 1 = 2", "behind 0 3 1 = 2");
    edge("13: who is LIT now stays so, and no other", TWO + "l0;", "behind 1 9 0 = 50", "behind 1 9 1 = 0",
        "behind 1 9 2 = 0");
    edge("13: PAGES 999 at most", READER, TILL_990, "sets 0 2 99", "lights 0", "behind 0 8 1 = 998",
        "behind 0 9 1 = 999", "behind 0 10 1 = 999", "behind 0 99 1 = 999", "behind 0 10 0 = 89");
    edge("13: HOUR above 999 is nothing in mind", TWO + "l0;", "9 times hours 99", "sets 0 2 99", "lights 0",
        "behind 0 99 0 = 0", "count 1 = 891");
  }

  private static void behindRefused() {
    edge("13: -1", TWO, "behind 2 0 0 refused 1", "behind -1 0 0 refused 1");
    edge("13: -4", TWO, "behind 0 -1 0 refused 4", "behind 0 -2147483648 0 refused 4");
    edge("13: -6 99", TWO, "behind 0 100 0 refused 6", "behind 0 2147483647 0 refused 6");
    edge("13: -2", TWO, "behind 0 0 3 refused 2", "behind 0 0 -1 refused 2");
    edge("13: -1 ahead of all", TWO, "behind 2 -1 3 refused 1", "behind 2 100 0 refused 1");
    edge("13: -4 and -6 ahead of -2", TWO, "behind 0 -1 3 refused 4", "behind 0 100 3 refused 6");
  }

  private static void all() {
    edge("14: 0 HOURS on", TWO + "l0;l1;", "all 0 0 = 2", "all 0 1 = 0");
    edge("14: 99 HOURS on", "p5000;p0000;c099;l0;l1;", "all 49 0 = 2", "all 50 0 = 1", "all 98 0 = 1", "all 99 0 = 0",
        "all 99 1 = 149");
    edge("14: nobody", "", "all 0 0 = 0", "all 99 0 = 0", "all 99 1 = 0");
    edge("14: PAGES 999 at most, of one", READER, TILL_990, "sets 0 2 99", "lights 0", "lights 1", "all 9 1 = 1008",
        "all 10 1 = 1009");
    edge("14: -4", TWO, "all -1 0 refused 4");
    edge("14: -6 99", TWO, "all 100 0 refused 6", "all 2147483647 0 refused 6");
    edge("14: -2", TWO, "all 0 2 refused 2", "all 0 -1 refused 2");
    edge("14: -4 and -6 ahead of -2", TWO, "all -1 2 refused 4", "all 100 -1 refused 6");
  }

  private static void lasts() {
    edge("15: CANDLE 0", "p0030;c000;", "lasts 0 = 0");
    edge("15: the last HOUR begun counts", "p0030;c001;", "lasts 0 = 1");
    edge("15: just one HOUR", "p0030;c004;", "lasts 0 = 1");
    edge("15: one tenth more", "p0030;c005;", "lasts 0 = 2");
    edge("15: 99 at most", "p5000;c099;", "lasts 0 = 99");
    edge("15: were he LIT, who is not, and who is", TWO + "l0;", "lasts 0 = 50", "lasts 1 = 50");
    edge("15: of one who BURNS more than his CANDLE", "p3000;p0000;h099;", "bring 1 0 999", "sets 0 2 99",
        "personOf 0 9 = 240", "lasts 0 = 1");
    edge("15: -1", TWO, "lasts 2 refused 1", "lasts -1 refused 1");
  }

  private static void longest() {
    edge("16: LONGEST -9", "", "longest 0 = -9", "longest 1 = -9");
    edge("16: of several the least", "p0030;p5000;p5000;", "longest 0 = 1", "longest 1 = 50");
    edge("16: all without light: the least", TWO + "c000;c100;", "longest 0 = 0", "longest 1 = 0");
    edge("16: the last of six", "p0000;p0000;p0000;p0000;p0000;p0000;c551;", "longest 0 = 5", "longest 1 = 51");
    edge("16: one alone, 99", "p5000;c099;", "longest 0 = 0", "longest 1 = 99");
    edge("16: by LASTS, not by CANDLE", "p0099;p0000;c099;", "longest 0 = 1", "longest 1 = 50");
    edge("16: -2", TWO, "longest 4 refused 2", "longest -1 refused 2");
  }

  private static void dark() {
    edge("16: DARK 0, nobody there", "", "longest 2 = 0");
    edge("16: DARK 0, nobody LIT", TWO, "longest 2 = 0");
    edge("16: DARK 99", "p5000;c099;l0;", "longest 2 = 99");
    edge("16: DARK 1", "p0000;c001;l0;", "longest 2 = 1");
    edge("16: DARK when the last one's goes out", TWO + "c010;c111;l0;l1;", "longest 2 = 11");
    edge("16: DARK at HOUR 999", TWO, "10 times hours 99", "hours 9", "lights 0", "longest 2 = 50");
  }

  private static void gutters() {
    edge("16: GUTTERS -9, nobody there", "", "longest 3 = -9");
    edge("16: GUTTERS -9, nobody LIT", TWO, "longest 3 = -9");
    edge("16: GUTTERS, of several the least", "p5000;p0000;p5000;c010;l1;l2;", "longest 3 = 1");
    edge("16: GUTTERS, of those LIT now", "p5000;p5000;c001;l1;", "longest 3 = 1");
    edge("16: GUTTERS, the last of six", "p5000;p5000;p5000;p5000;p5000;p0010;l0;l1;l2;l3;l4;l5;", "longest 3 = 5");
    edge("16: GUTTERS, behind 99", "p5000;p5000;c199;l1;", "longest 3 = 1");
    edge("16: GUTTERS, by LASTS, not by CANDLE", "p0099;p0000;c020;c103;l0;l1;", "longest 3 = 0");
  }

  private static void give() {
    edge("17: 0 coins", "p0030;p0000;", "give 0 1 13 = 0");
    edge("17: h HOURS or more", "p0030;p0000;", "give 0 1 1 = 0", "give 0 1 14 = 1", "give 0 1 17 = 1",
        "give 0 1 18 = 11");
    edge("17: all he HOLDS", "p0010;p0000;h009;", "give 0 1 50 = 10", "give 0 1 25 = 0");
    edge("17: -9, not by all he HOLDS", "p0010;p0000;h010;", "give 0 1 25 = 1", "give 0 1 26 = -9");
    edge("17: -9 is no REFUSAL", "p0000;p0000;", "give 0 1 51 = -9", "count 11 = 0", "count 16 = 0");
    edge("17: who HOLDS none", TWO, "give 0 1 50 = 0", "give 0 1 51 = -9");
    edge("17: CANDLE 0", TWO + "c000;", "give 0 1 1 = -9");
    edge("17: 99 HOURS", "p0010;p0000;c099;", "give 0 1 99 = 1");
    edge("17: 99 HOURS, one tenth too few", "p0010;p0000;c098;", "give 0 1 98 = 1", "give 0 1 99 = -9");
    edge("17: a PAUPER need give none", "p5999;p0000;c099;", "give 0 1 99 = 0");
    edge("17: the other HOLDS 999", "p0000;p0010;p0000;", "bring 2 0 999", "give 1 0 50 = 1");
    edge("17: who HOLDS 999", "p0000;p0000;c099;", "bring 1 0 999", "give 0 1 1 = 0", "give 0 1 99 = 990");
  }

  private static void giveRefused() {
    edge("17: -1 one twice", TWO, "give 0 0 5 refused 1", "give 1 1 5 refused 1");
    edge("17: -1 either", TWO, "give 2 0 5 refused 1", "give 0 2 5 refused 1", "give -1 0 5 refused 1",
        "give 0 -1 5 refused 1");
    edge("17: -4 1", TWO, "give 0 1 0 refused 4", "give 0 1 -2147483648 refused 4", "give 0 1 1 = 0");
    edge("17: -6 99", TWO, "give 0 1 100 refused 6", "give 0 1 2147483647 refused 6", "give 0 1 99 = -9");
    edge("17: -1 ahead of -4 and -6", TWO, "give 0 0 0 refused 1", "give 0 2 100 refused 1");
  }

  private static void bestFriend() {
    edge("18: -9 alone", "p0030;", "bestFriend 0 0 = -9", "bestFriend 0 1 = -9", "count 11 = 0");
    edge("18: two", "p0030;p0000;", "bestFriend 0 0 = 1", "bestFriend 0 1 = 63", "bestFriend 1 0 = 0",
        "bestFriend 1 1 = 63");
    edge("18: of several the least", "p0030;p0000;p0000;", "bestFriend 0 0 = 1", "bestFriend 2 0 = 1");
    edge("18: the last of six", "p0030;p1000;p1000;p1000;p1000;p0000;", "bestFriend 0 0 = 5");
    edge("18: all he HOLDS, to the last coin", "p0020;p5000;h009;", "bestFriend 0 1 = 100");
    edge("18: all he HOLDS, not what he HIDES", "p0020;p5000;h010;", "bestFriend 0 1 = 75");
    edge("18: who HOLDS none", TWO, "bestFriend 0 1 = 100");
    edge("18: all without light", TWO + "p0000;c000;c100;c200;", "bestFriend 1 0 = 0", "bestFriend 1 1 = 0",
        "bestFriend 0 0 = 1");
    edge("18: HOLDS 999 at most", "p2000;p0000;p0000;c051;c151;", "bring 1 0 999", "sets 1 0 90", "sets 2 2 1",
        "bestFriend 1 1 = 53");
    edge("18: who gives 999", "p0000;p0000;c099;", "bring 1 0 999", "bestFriend 0 1 = 100");
    edge("18: -1", TWO, "bestFriend 2 0 refused 1", "bestFriend -1 0 refused 1");
    edge("18: -2", TWO, "bestFriend 0 2 refused 2", "bestFriend 0 -1 refused 2");
    edge("18: -2 alone too", "p0000;", "bestFriend 0 2 refused 2");
    edge("18: -1 ahead of -2", TWO, "bestFriend 2 2 refused 1");
  }

  private static void both() {
    edge("19: 0 coins", TWO, "both 0 1 0 = 0", "both 0 1 1 = 50");
    edge("19: all he HOLDS", "p0010;p5000;h009;", "both 0 1 0 = 10", "both 0 1 1 = 50");
    edge("19: of several the fewest", "p0019;p5000;", "both 0 1 0 = 10", "both 0 1 1 = 50");
    edge("19: the lesser is 0 whatever it be", "p0030;p0000;c100;", "both 0 1 0 = 0", "both 0 1 1 = 0");
    edge("19: the lesser of both", "p0030;p0020;", "both 0 1 0 = 1", "both 0 1 1 = 17", "both 1 0 0 = 0",
        "both 1 0 1 = 13");
    edge("19: HOLDS 999 at most", "p2000;p0000;c051;c110;", "bring 1 0 999", "sets 1 0 90", "both 1 0 0 = 1",
        "both 1 0 1 = 2");
    edge("19: -1 one twice", TWO, "both 0 0 0 refused 1", "both 1 1 0 refused 1");
    edge("19: -1 either", TWO, "both 2 0 0 refused 1", "both 0 2 0 refused 1", "both -1 0 0 refused 1",
        "both 0 -1 0 refused 1");
    edge("19: -2", TWO, "both 0 1 2 refused 2", "both 0 1 -1 refused 2");
    edge("19: -1 ahead of -2", TWO, "both 0 0 2 refused 1");
  }

  private static void borrow() {
    edge("20: 10 coins more, no fewer", "p0000;c010;", "borrow 0 = 5");
    edge("20: 10 coins more, no more", "p0009;c010;", "borrow 0 = 5");
    edge("20: 0, a PAUPER", "p5000;", "borrow 0 = 0");
    edge("20: 0, CANDLE 0", "p0030;c000;", "borrow 0 = 0");
    edge("20: 0, CANDLE 1", "p0030;c001;", "borrow 0 = 0");
    edge("20: HOLDS 989 and 10", "p0000;p0000;c099;", "bring 1 0 989", "borrow 0 = 0");
    edge("20: HOLDS 999 at most", "p2000;p0000;c051;", "bring 1 0 990", "borrow 0 = 0", "bring 1 0 9", "borrow 0 = 0");
    edge("20: above 99", "p0099;c099;", "lasts 0 = 10", "borrow 0 = 1");
    edge("20: -1 as 1000000001", TWO, "borrow 2 refused 1", "borrow -1 refused 1", "borrow -2147483648 refused 1");
  }

  private static void night() {
    edge("21: 1 HOUR", "p0030;", "night 0 1 0 = 30", "night 0 1 1 = 46", "night 0 1 2 = 1");
    edge("21: 12 HOURS", "p0030;", "night 0 12 1 = 2", "night 0 12 2 = 12");
    edge("21: CANDLE 0 at least", "p0030;c045;", "night 0 11 1 = 1", "night 0 12 1 = 0", "night 0 12 2 = 12");
    edge("21: no light left", "p0030;c044;", "night 0 11 1 = 0", "night 0 12 2 = 11");
    edge("21: CANDLE 0", "p0030;c000;", "night 0 12 1 = 0", "night 0 12 2 = 0");
    edge("21: PAGES 999 at most", READER, TILL_990, "sets 0 2 99", "night 0 9 2 = 9", "night 0 10 2 = 9",
        "night 0 12 1 = 87");
    edge("21: HOUR above 999 is nothing in mind", READER, TILL_990, "night 1 12 2 = 12");
    edge("21: HOLDS 999 at most", "p5000;p5000;p5000;t20;t10;", "bring 1 0 980", "sets 1 0 30", "sets 2 0 40",
        "night 0 1 0 = 929", "night 1 1 0 = 30", "night 2 1 0 = 40");
    edge("21: HOLDS 999 at most at dawn, too", "p0900;p2000;p3000;", "bring 2 1 990", "sets 2 0 99", "trusts 1 0",
        "trusts 2 1", "night 2 1 0 = 49", "night 1 1 0 = 999", "night 0 1 0 = 0", "nightOfAll 1 1 = 41");
    edge("21: -1", TWO, "night 2 5 0 refused 1", "night -1 5 0 refused 1");
    edge("21: -4 1", TWO, "night 0 0 0 refused 4", "night 0 -2147483648 0 refused 4");
    edge("21: -6 12", TWO, "night 0 13 0 refused 6", "night 0 2147483647 0 refused 6");
    edge("21: -2", TWO, "night 0 1 3 refused 2", "night 0 12 -1 refused 2");
    edge("21: -1 ahead of all", TWO, "night 2 0 3 refused 1", "night 2 13 0 refused 1");
    edge("21: -4 and -6 ahead of -2", TWO, "night 0 0 3 refused 4", "night 0 13 -1 refused 6");
  }

  private static void nightOfAll() {
    edge("22: 1 HOUR and 12", TWO, "nightOfAll 1 0 = 2", "nightOfAll 12 0 = 24");
    edge("22: nobody", "", "nightOfAll 12 0 = 0", "nightOfAll 12 1 = 0");
    edge("22: PAGES more, 999 at most", READER, TILL_990, "sets 0 2 99", "nightOfAll 9 0 = 18", "nightOfAll 10 0 = 19");
    edge("22: what is kept is not less", "p0030;p3000;t01;", "nightOfAll 5 1 = 0", "night 0 5 0 = 15");
    edge("22: what is lost above 999", "p5000;p5000;p5000;t20;t10;", "bring 1 0 980", "sets 1 0 30", "sets 2 0 40",
        "nightOfAll 5 1 = 51");
    edge("22: -4 1", TWO, "nightOfAll 0 0 refused 4", "nightOfAll -1 0 refused 4");
    edge("22: -6 12", TWO, "nightOfAll 13 0 refused 6", "nightOfAll 2147483647 0 refused 6");
    edge("22: -2", TWO, "nightOfAll 5 2 refused 2", "nightOfAll 5 -1 refused 2");
    edge("22: -4 and -6 ahead of -2", TWO, "nightOfAll 0 2 refused 4", "nightOfAll 13 2 refused 6");
  }

  private static void trust() {
    edge("23: -9 alone", "p0499;", "trust 0 1 = -9", "trust 0 12 = -9", "count 11 = 0");
    edge("23: 9 none, if that is as good", TWO, "trust 0 12 = 9", "trust 1 1 = 9");
    edge("23: one HOUR is read whatever it be", "p0099;p0000;c001;", "trust 0 12 = 9");
    edge("23: one who is better than none", "p0099;p0000;", "trust 0 5 = 9", "trust 0 6 = 1");
    edge("23: of several the least", "p0099;p0000;p0000;", "trust 0 12 = 1");
    edge("23: of several the least, himself left out", "p0000;p0099;p0000;", "trust 1 12 = 0");
    edge("23: the last of six", "p0099;p0000;p0000;p0000;p0000;p0000;t10;t20;t30;t40;", "trust 0 12 = 5");
    edge("23: none is better than the COUSIN he has", "p0000;p0099;t01;c001;", "trust 0 12 = 9");
    edge("23: the COUSIN he has is better than none", "p0099;p0000;t01;", "trust 0 12 = 1", "personOf 0 7 = 1");
    edge("23: PAGES 999 at most", "p0000;p5000;", "10 times sets 0 2 99, sets 0 0 0, lights 0, hours 99", "sets 0 2 50",
        "sets 0 0 99", "trust 0 5 = 9", "trust 0 6 = 1", "sets 0 2 99", "trust 0 12 = 9");
    edge("23: -1", TWO, "trust 2 5 refused 1", "trust -1 5 refused 1");
    edge("23: -4 1", TWO, "trust 0 0 refused 4", "trust 0 -2147483648 refused 4");
    edge("23: -6 12", TWO, "trust 0 13 refused 6", "trust 0 2147483647 refused 6");
    edge("23: -1 ahead of -4 and -6", TWO, "trust 2 0 refused 1", "trust 2 13 refused 1");
    edge("23: -4 and -6 alone too", "p0000;", "trust 0 0 refused 4", "trust 0 13 refused 6");
  }

  private static void safe() {
    edge("24: alone", "p0499;", "safe 0 12 = 0");
    edge("24: bits, himself left out", "p0401;p0401;p0401;p0401;p0401;p0401;", "safe 0 1 = 62", "safe 5 12 = 31",
        "safe 2 5 = 59");
    edge("24: who HOLDS none loses nothing", "p0000;p3000;p2000;", "safe 0 5 = 6");
    edge("24: half, cut, of 1 is less", "p0001;p0300;p0400;", "safe 0 5 = 4");
    edge("24: nothing is lost by 999 of the COUSIN", "p5000;p0050;p0000;", "bring 2 0 980", "safe 1 5 = 1");
    edge("24: the COUSIN HOLDS less then", "p0010;p5004;p3000;p5000;t12;", "safe 0 5 = 8");
    edge("24: what others leave him makes up for it", "p3010;p5030;p3000;t10;", "safe 0 1 = 6");
    edge("24: it does not, if it is less", "p3010;p5008;p3000;t10;", "safe 0 1 = 2");
    edge("24: -1", TWO, "safe 2 5 refused 1", "safe -1 5 refused 1");
    edge("24: -4 1", TWO, "safe 0 0 refused 4", "safe 0 -2147483648 refused 4", "safe 0 1 = 2");
    edge("24: -6 12", TWO, "safe 0 13 refused 6", "safe 0 2147483647 refused 6", "safe 0 12 = 2");
    edge("24: -1 ahead of -4 and -6", TWO, "safe 2 0 refused 1", "safe 2 13 refused 1");
  }
}
