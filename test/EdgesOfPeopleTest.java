/** The edges of what people are and of promises 1, 4, 5, 6 and 48. */
public final class EdgesOfPeopleTest extends Edges {
  private static final String SIX_PAUPERS = "p5000;p5000;p5000;p5000;p5000;p5000;";

  public static void main(String[] args) {
    newObject();
    atFirst();
    wealth();
    burns();
    honest();
    personOf();
    person();
    sets();
    setsRefused();
    count();
    countOfRefusals();
    end();
  }

  private static void newObject() {
    edge("1: nobody", "", "count 0 = 0", "personOf 0 0 refused 1");
    edge("1: HOUR 0 at first", "", "count 1 = 0");
    edge("1: nobody is LIT, HOLDS, burns or reads", "", "count 2 = 0", "count 3 = 0", "count 4 = 0", "count 5 = 0");
    edge("1: no letters", "", "count 6 = 0");
    edge("1: the ROW has none", "", "count 7 = 0", "clear = 0");
    edge("1: nothing can be TAKEN BACK", "", "count 8 = 0", "back refused 3");
    edge("1: there is no IMAGE", "", "restore refused 3");
    edge("1: no REFUSALS", "", "count 11 = 0", "count 12 = 0", "count 13 = 0", "count 14 = 0", "count 15 = 0",
        "count 16 = 0");
  }

  private static void atFirst() {
    edge("HIDES: 0 at first", "p0909;", "personOf 0 3 = 0");
    edge("CANDLE: 50 at first", "p0909;", "personOf 0 4 = 50");
    edge("LIT: not at first", "p0909;", "personOf 0 5 = 0");
    edge("PAGES: 0 at first", "p0909;", "personOf 0 6 = 0");
    edge("COUSIN: none at first", "p0909;p0909;", "personOf 0 7 = -9", "personOf 1 7 = -9");
    edge("HIDES: 0 at first by person() too", "", "person 3 0 9 = 0", "personOf 0 3 = 0");
    edge("CANDLE: 50 at first by person() too", "", "person 3 0 9 = 0", "personOf 0 4 = 50");
    edge("LIT: not at first by person() either", "", "person 3 0 9 = 0", "personOf 0 5 = 0");
    edge("PAGES: 0 at first by person() too", "", "person 3 0 9 = 0", "personOf 0 6 = 0");
    edge("COUSIN: none at first by person() either", "", "person 3 0 9 = 0", "personOf 0 7 = -9");
  }

  private static void wealth() {
    edge("WEALTH: OWNER HOLDS plus HIDES, none of both", "p0900;", "personOf 0 8 = 0");
    edge("WEALTH: OWNER HOLDS plus HIDES, most of both", "p0000;p5000;h099;", "bring 1 0 999", "personOf 0 2 = 999",
        "personOf 0 8 = 1098");
    edge("WEALTH: LORD 10 more of none", "p1000;", "personOf 0 8 = 10");
    edge("WEALTH: LORD 10 more of most", "p1000;p5000;h099;", "bring 1 0 999", "personOf 0 8 = 1108");
    edge("WEALTH: DEBTOR half, cut, of an odd one", "p2007;", "personOf 0 8 = 3");
    edge("WEALTH: DEBTOR half, cut, of both together", "p2007;h001;", "personOf 0 8 = 4");
    edge("WEALTH: DEBTOR less FIGURE, cut first", "p2209;", "personOf 0 8 = 2");
    edge("WEALTH: DEBTOR 0 at least, half is FIGURE", "p2408;", "personOf 0 8 = 0");
    edge("WEALTH: DEBTOR 0 at least, half is below FIGURE", "p2407;", "personOf 0 8 = 0");
    edge("WEALTH: DEBTOR 0 at least, of none", "p2900;", "personOf 0 8 = 0", "personOf 0 9 = 1");
    edge("WEALTH: DEBTOR, half is 1 above FIGURE", "p2410;", "personOf 0 8 = 1");
    edge("WEALTH: MISER HOLDS plus twice what he HIDES", "p3901;h001;", "personOf 0 8 = 3");
    edge("WEALTH: MISER, most of both", "p3000;p5000;h099;", "bring 1 0 999", "personOf 0 8 = 1197");
    edge("WEALTH: HEIR half, cut, of HOLDS less", "p4907;", "personOf 0 8 = 14");
    edge("WEALTH: HEIR of none", "p4000;", "personOf 0 8 = 10");
    edge("WEALTH: HEIR half of HOLDS, not of HIDES", "p4008;h007;", "personOf 0 8 = 21");
    edge("WEALTH: PAUPER FIGURE 0", "p5099;h099;", "personOf 0 8 = 0");
    edge("WEALTH: PAUPER FIGURE 9", "p5900;", "personOf 0 8 = 9");
  }

  private static void burns() {
    edge("BURNS: OWNER by 10, cut, below 10", "p0009;", "personOf 0 9 = 1");
    edge("BURNS: OWNER by 10, cut, 10", "p0010;", "personOf 0 9 = 2");
    edge("BURNS: OWNER 1 by none", "p0000;", "personOf 0 9 = 1");
    edge("BURNS: LORD 1 more, of WEALTH 19", "p1009;", "personOf 0 9 = 3");
    edge("BURNS: LORD 1 more, of WEALTH 20", "p1010;", "personOf 0 9 = 4");
    edge("BURNS: LORD 1 more, of WEALTH 10", "p1000;", "personOf 0 9 = 3");
    edge("BURNS: DEBTOR as an OWNER of his WEALTH, 9", "p2019;", "personOf 0 8 = 9", "personOf 0 9 = 1");
    edge("BURNS: DEBTOR as an OWNER of his WEALTH, 10", "p2020;", "personOf 0 8 = 10", "personOf 0 9 = 2");
    edge("BURNS: MISER by 5, cut, below 5", "p3004;", "personOf 0 9 = 1");
    edge("BURNS: MISER by 5, cut, 5", "p3005;", "personOf 0 9 = 2");
    edge("BURNS: HEIR as a LORD of his WEALTH, 19", "p4018;", "personOf 0 8 = 19", "personOf 0 9 = 3");
    edge("BURNS: HEIR as a LORD of his WEALTH, 20", "p4019;", "personOf 0 8 = 20", "personOf 0 9 = 4");
    edge("BURNS: PAUPER 1, whatever he has", "p5999;h099;", "personOf 0 9 = 1");
    edge("BURNS: most", "p3000;p5000;h099;", "bring 1 0 999", "personOf 0 9 = 240");
  }

  private static void honest() {
    edge("HONEST: OWNER, FIGURE 4", "p0400;", "personOf 0 10 = 1");
    edge("HONEST: OWNER, FIGURE 3", "p0300;", "personOf 0 10 = 0");
    edge("HONEST: OWNER, FIGURES 0 and 9", "p0000;p0900;", "personOf 0 10 = 0", "personOf 1 10 = 1");
    edge("HONEST: LORD always", "p1000;p1300;", "personOf 0 10 = 1", "personOf 1 10 = 1");
    edge("HONEST: DEBTOR as an OWNER, FIGURE 4", "p2400;", "personOf 0 10 = 1");
    edge("HONEST: DEBTOR as an OWNER, FIGURE 3", "p2300;", "personOf 0 10 = 0");
    edge("HONEST: MISER never", "p3400;p3900;", "personOf 0 10 = 0", "personOf 1 10 = 0");
    edge("HONEST: HEIR as a LORD", "p4000;p4300;", "personOf 0 10 = 1", "personOf 1 10 = 1");
    edge("HONEST: PAUPER always", "p5000;p5300;", "personOf 0 10 = 1", "personOf 1 10 = 1");
  }

  private static void personOf() {
    edge("4: -1, the next one", "p0000;p0000;", "personOf 1 0 = 0", "personOf 2 0 refused 1");
    edge("4: -1, below 0", "p0000;", "personOf -1 0 refused 1");
    edge("4: -1, far", "p0000;", "personOf 2147483647 0 refused 1", "personOf -2147483648 0 refused 1");
    edge("4: -1 of six", SIX_PAUPERS, "personOf 5 0 = 5", "personOf 6 0 refused 1");
    edge("4: -2, 11", "p0400;", "personOf 0 10 = 1", "personOf 0 11 refused 2");
    edge("4: -2, below 0", "p0400;", "personOf 0 -1 refused 2", "personOf 0 -2147483648 refused 2");
    edge("4: -1 ahead of -2", "p0400;", "personOf 1 11 refused 1");
    edge("4: COUSIN 0, and -9 of none", "p0000;p0000;t10;", "personOf 1 7 = 0", "personOf 0 7 = -9");
    edge("4: 1 LIT", "p0000;p0000;l1;", "personOf 1 5 = 1", "personOf 0 5 = 0");
  }

  private static void person() {
    edge("5: one more: the number, from 0 on", "", "person 5 0 0 = 0", "person 0 9 99 = 1", "count 0 = 2");
    edge("5: 6 at most", SIX_PAUPERS, "person 0 0 0 refused 6", "count 0 = 6");
    edge("5: the sixth has room", "p5000;p5000;p5000;p5000;p5000;", "person 0 0 0 = 5");
    edge("5: -2, KIND 6", "", "person 5 0 0 = 0", "person 6 0 0 refused 2");
    edge("5: -2, KIND below 0", "", "person -1 0 0 refused 2", "person -2147483648 0 0 refused 2");
    edge("5: -4, FIGURE", "", "person 0 -1 0 refused 4", "person 0 0 0 = 0");
    edge("5: -4, HOLDS", "", "person 0 0 -1 refused 4", "person 0 0 0 = 0");
    edge("5: -6, FIGURE 9", "", "person 0 10 0 refused 6", "person 0 9 0 = 0");
    edge("5: -6, HOLDS 99", "", "person 0 0 100 refused 6", "person 0 0 99 = 0");
    edge("5: -2 ahead of -4", "", "person 6 -1 0 refused 2");
    edge("5: -4 either ahead of -6", "", "person 0 10 -1 refused 4", "person 0 -1 100 refused 4");
    edge("5: -4 ahead of -6 of room", SIX_PAUPERS, "person 0 0 -1 refused 4");
    edge("5: -2 ahead of -6 of room", SIX_PAUPERS, "person 6 0 0 refused 2");
    edge("5: what is told at the edges", "", "person 5 9 99 = 0", "personOf 0 0 = 5", "personOf 0 1 = 9",
        "personOf 0 2 = 99");
  }

  private static void sets() {
    edge("6: what it was", "p0430;", "sets 0 0 99 = 30", "sets 0 0 0 = 99", "personOf 0 2 = 0");
    edge("6: what it was, above 99", "p0000;p0000;", "bring 1 0 999", "sets 0 0 5 = 999", "personOf 0 2 = 5");
    edge("6: HIDES 0 and 99", "p0430;", "sets 0 1 99 = 0", "sets 0 1 0 = 99", "personOf 0 3 = 0");
    edge("6: CANDLE 1 and 99", "p0430;", "sets 0 2 1 = 50", "sets 0 2 99 = 1", "personOf 0 4 = 99");
    edge("6: CANDLE at 0 LIT no more", "p0430;l0;", "sets 0 2 0 = 50", "personOf 0 5 = 0");
    edge("6: at 1 still LIT", "p0430;l0;", "sets 0 2 1 = 50", "personOf 0 5 = 1");
    edge("6: LIT no more, also if the CANDLE is again", "p0430;l0;", "sets 0 2 0 = 50", "sets 0 2 9 = 0",
        "personOf 0 5 = 0");
    edge("6: HOLDS and HIDES at 0 put out nothing", "p0430;l0;h009;", "sets 0 0 0 = 30", "sets 0 1 0 = 9",
        "personOf 0 5 = 1");
  }

  private static void setsRefused() {
    edge("6: -1", "p0430;p5000;", "sets 2 0 0 refused 1", "sets -1 0 0 refused 1");
    edge("6: -2", "p0430;", "sets 0 3 0 refused 2", "sets 0 -1 0 refused 2");
    edge("6: -4", "p0430;", "sets 0 0 -1 refused 4", "sets 0 1 -1 refused 4", "sets 0 2 -1 refused 4");
    edge("6: -6 99 of HOLDS", "p0430;", "sets 0 0 100 refused 6", "sets 0 0 99 = 30");
    edge("6: -6 99 of HIDES", "p0430;", "sets 0 1 100 refused 6", "sets 0 1 99 = 0");
    edge("6: -6 99 of CANDLE", "p0430;", "sets 0 2 100 refused 6", "sets 0 2 99 = 50");
    edge("6: -6 99, also of one who HOLDS more", "p0000;p0000;", "bring 1 0 120", "sets 0 0 120 refused 6");
    edge("6: -1 ahead of -2", "p0430;", "sets 1 3 0 refused 1");
    edge("6: -2 ahead of -4 and -6", "p0430;", "sets 0 3 -1 refused 2", "sets 0 -1 100 refused 2");
  }

  private static void count() {
    edge("48: PEOPLE 0 and 6", SIX_PAUPERS, "count 0 = 6");
    edge("48: HOUR 999", "p0000;", "10 times hours 99", "hours 9 = 0", "count 1 = 999");
    edge("48: LIT ones (bits), none and all", SIX_PAUPERS, "count 2 = 0", "tell l0;l1;l2;l3;l4;l5; = 6", "count 2 = 63");
    edge("48: LIT ones, the last", SIX_PAUPERS + "l5;", "count 2 = 32");
    edge("48: all HOLDS, above 999", "p0000;p0000;p0000;", "bring 2 0 999", "bring 2 1 999", "sets 2 0 99",
        "count 3 = 2097");
    edge("48: all CANDLES", "p0000;p0000;c099;c100;", "count 4 = 99");
    edge("48: all PAGES, above 999", SIX_PAUPERS, "4 times hours 99",
        "10 times sets 0 2 12, sets 1 2 12, sets 2 2 12, sets 3 2 12, sets 4 2 12, sets 5 2 12, nights 12",
        "count 5 = 720");
    edge("48: 96 letters", "", "96 times feed 112", "count 6 = 96");
    edge("48: 12 in the ROW", "", "12 times row 5", "count 7 = 12");
    edge("48: what can be TAKEN BACK, 8 at most", "p0000;", "8 times sets 0 0 1", "count 8 = 8", "sets 0 0 1 = 1",
        "count 8 = 8");
    edge("48: -9 for 9 and 10", "p0000;", "count 9 = -9", "count 10 = -9");
    edge("48: -9 for 17", "p0000;", "count 16 = 0", "count 17 = -9");
    edge("48: -9 below 0", "p0000;", "count -1 = -9", "count -11 = -9");
    edge("48: -9 far", "p0000;", "count 2147483647 = -9", "count -2147483648 = -9");
    edge("48: -9 is no REFUSAL", "", "count 9 = -9", "count 12 = 0");
  }

  private static void countOfRefusals() {
    edge("48: REFUSALS -1", "", "lasts 0 refused 1", "count 11 = 1", "lasts 0", "count 11 = 2");
    edge("48: REFUSALS -2", "", "relay 2 refused 2", "count 12 = 1");
    edge("48: REFUSALS -3", "", "back refused 3", "count 13 = 1");
    edge("48: REFUSALS -4", "", "row -1 refused 4", "count 14 = 1");
    edge("48: REFUSALS -5 there are none", "", "lasts 0", "relay 2", "back", "row -1", "row 100", "count 15 = 0");
    edge("48: REFUSALS -6", "", "row 100 refused 6", "count 16 = 1");
    edge("REFUSALS of borrow(): 1000000000 less them", "", "borrow 0 = 1000000001", "count 11 = 1");
    edge("REFUSALS of longs: 4000000000000000000 less them", "p0000;", "draft 1 0 2 0 = 4000000000000000001",
        "mean 2 = 4000000000000000002", "draft 0 -1 2 0 = 4000000000000000004", "draft 0 9 2 0 = 4000000000000000006");
    edge("REFUSALS: how many there were stays with restore()", "p0000;", "image", "lasts 1", "restore", "count 11 = 1");
    edge("REFUSALS: how many there were stays with back()", "p0000;", "sets 0 0 1", "lasts 1", "back = 0", "count 11 = 1");
  }
}
