/** The edges of promises 25 to 27, 30 to 32, 39 to 41 and 45: light shared, taxed, halved, drafts and lots. */
public final class EdgesOfLightTest extends Edges {
  private static final String TWO = "p0000;p0000;";
  private static final String SIX_PAUPERS = "p5000;p5000;p5000;p5000;p5000;p5000;";
  private static final String TILL_990 = "10 times sets 0 2 99, lights 0, hours 99";

  public static void main(String[] args) {
    relay();
    tax();
    hide();
    halve();
    draft();
    draftRefused();
    shares();
    unlit();
    gap();
    same();
    lots();
    draws();
    lotsRefused();
    end();
  }

  private static void relay() {
    edge("25: nobody", "", "relay 0 = 0", "relay 1 = 0");
    edge("25: one alone", "p5000;", "relay 0 = 50", "relay 1 = 0");
    edge("25: without light", TWO + "c000;c100;", "relay 0 = 0", "relay 1 = 0");
    edge("25: PAIRED, half, cut", "p5000;p5000;p5000;c003;c102;c202;", "relay 0 = 7", "relay 1 = 3");
    edge("25: PAIRED, all but the longest together", "p5000;p5000;p5000;c009;c102;c202;", "relay 0 = 13", "relay 1 = 4");
    edge("25: PAIRED, both alike", "p5000;p5000;p5000;c004;c102;c202;", "relay 0 = 8", "relay 1 = 4");
    edge("25: PAIRED, the longest once, of several", "p5000;p5000;c009;c109;", "relay 1 = 9");
    edge("25: RELAY of six, most", SIX_PAUPERS, "tell c099;c199;c299;c399;c499;c599; = 6", "relay 0 = 594",
        "relay 1 = 297");
    edge("25: -2", TWO, "relay 2 refused 2", "relay -1 refused 2");
  }

  private static void tax() {
    edge("26: t 0", "p0030;p0050;", "tax 0 0 = 0", "tax 0 1 = 0");
    edge("26: t 9", "p0030;p0050;", "tax 9 0 = 90", "tax 9 1 = 1");
    edge("26: PAYS -9, nobody", "", "tax 5 0 = 0", "tax 5 1 = -9", "tax 0 1 = -9");
    edge("26: PAYS, of several the least", "p0030;p0059;p0050;", "tax 1 1 = 1");
    edge("26: PAYS, the last", "p0030;p0030;p0040;", "tax 1 1 = 2");
    edge("26: who is not LIT, without CANDLE too", TWO + "c000;c100;", "tax 1 0 = 2", "tax 1 1 = 0");
    edge("26: most", "p3000;p0000;h099;", "bring 1 0 999", "tax 9 0 = 2169");
    edge("26: -4", TWO, "tax -1 0 refused 4", "tax -2147483648 0 refused 4");
    edge("26: -6 9", TWO, "tax 10 0 refused 6", "tax 2147483647 0 refused 6");
    edge("26: -2", TWO, "tax 9 2 refused 2", "tax 0 -1 refused 2");
    edge("26: -4 and -6 ahead of -2", TWO, "tax -1 2 refused 4", "tax 10 2 refused 6");
  }

  private static void hide() {
    String[] kinds = {"OWNER", "LORD", "DEBTOR", "MISER", "HEIR", "PAUPER"};
    for (int kind = 0; kind < 6; kind++) {
      edge("27: of several the fewest, " + kinds[kind], "p" + kind + "007;", "hide 0 = 0");
      edge("27: of several the fewest, an even sum, " + kinds[kind], "p" + kind + "308;h002;", "hide 0 = 0");
      edge("27: HOLDS none, " + kinds[kind], "p" + kind + "300;h002;", "hide 0 = 0");
      edge("27: HIDES 99, " + kinds[kind], "p" + kind + "399;h099;", "hide 0 = 0");
    }
    edge("27: HOLDS 999", "p4000;p0000;", "bring 1 0 999", "hide 0 = 0", "personOf 0 3 = 0", "personOf 0 2 = 999");
    edge("27: -1", TWO, "hide 2 refused 1", "hide -1 refused 1");
  }

  private static void halve() {
    edge("30: the first pair, all alike", TWO, "halve 0 1 = 0");
    edge("30: the first pair, of coins that change nothing", "p0005;p0005;", "halve 0 1 = 0");
    edge("30: the first pair, 1", "p0005;p0010;", "halve 0 1 = 1");
    edge("30: the first pair, 1, ahead of 10", "p0010;p0005;", "halve 0 1 = 1");
    edge("30: the first pair, 10", "p0029;p0030;", "halve 0 1 = 10", "halve 1 0 = 1");
    edge("30: either would, at once one of them", "p0010;p0010;", "halve 0 1 = 1");
    edge("30: who HOLDS none gives none", "p0000;p0010;", "halve 0 1 = 1", "halve 1 0 = 10");
    edge("30: who HOLDS none but HIDES gives none", "p0000;p5000;h010;", "halve 0 1 = 0", "halve 1 0 = 0");
    edge("30: who HOLDS 1 gives 1", "p0001;p0000;h009;", "halve 0 1 = 10", "halve 1 0 = 1");
    edge("30: without light", "p0010;p0010;c000;c100;", "halve 0 1 = 0");
    edge("30: HOLDS 999 at most", "p2000;p0000;c051;", "bring 1 0 999", "sets 1 0 10", "halve 0 1 = 1");
    edge("30: -1 one twice", TWO, "halve 0 0 refused 1", "halve 1 1 refused 1");
    edge("30: -1 either", TWO, "halve 2 0 refused 1", "halve 0 2 refused 1", "halve -1 0 refused 1",
        "halve 0 -1 refused 1");
  }

  private static void draft() {
    edge("31: n 0", "p0030;", "draft 0 0 2 0 = 1", "draft 0 0 2 1 = 1");
    edge("31: n 0, CANDLE 0: 0 over 1", "p0030;c000;", "draft 0 0 2 0 = 0", "draft 0 0 2 1 = 1");
    edge("31: n 8, t 20", "p5000;c009;", "draft 0 8 20 0 = 16983563041", "draft 0 8 20 1 = 25600000000");
    edge("31: n 8, t 2", "p5000;c009;", "draft 0 8 2 0 = 1", "draft 0 8 2 1 = 256");
    edge("31: surely no light: 0 over 1", "p5000;c008;", "draft 0 8 20 0 = 0", "draft 0 8 20 1 = 1");
    edge("31: surely light: 1 over 1", "p5000;c025;", "draft 0 8 20 0 = 1", "draft 0 8 20 1 = 1");
    edge("31: light but for a draft in each", "p5000;c024;", "draft 0 8 2 0 = 255", "draft 0 8 2 1 = 256");
    edge("31: lowest terms", "p5000;c003;", "draft 0 2 2 0 = 1", "draft 0 2 2 1 = 4", "draft 0 1 4 0 = 3",
        "draft 0 1 4 1 = 4");
    edge("31: lowest terms of 8 over 16", "p5000;c012;", "draft 0 5 2 0 = 13", "draft 0 5 2 1 = 16");
    edge("31: CANDLE just 0 is no light", "p5000;c001;", "draft 0 1 20 0 = 0", "draft 0 1 20 1 = 1");
    edge("31: CANDLE just 0 by a draft is no light", "p5000;c003;", "draft 0 1 20 0 = 19", "draft 0 1 20 1 = 20");
    edge("31: LIT now, or as if", "p5000;p5000;c003;c103;l0;", "draft 0 1 20 0 = 19", "draft 1 1 20 0 = 19");
  }

  private static void draftRefused() {
    edge("31: -1", "p0030;", "draft 1 0 2 0 refused 1", "draft -1 0 2 0 refused 1");
    edge("31: -4 n below 0", "p0030;", "draft 0 -1 2 0 refused 4", "draft 0 -2147483648 2 0 refused 4");
    edge("31: -4 t below 2", "p0030;", "draft 0 0 1 0 refused 4", "draft 0 0 0 0 refused 4", "draft 0 0 -5 0 refused 4");
    edge("31: -6 8", "p0030;", "draft 0 9 2 0 refused 6", "draft 0 2147483647 2 0 refused 6");
    edge("31: -6 20", "p0030;", "draft 0 0 21 0 refused 6", "draft 0 0 2147483647 0 refused 6");
    edge("31: -2", "p0030;", "draft 0 8 20 2 refused 2", "draft 0 0 2 -1 refused 2");
    edge("31: -1 ahead of all", "p0030;", "draft 1 -1 21 2 refused 1");
    edge("31: -4 ahead of -6", "p0030;", "draft 0 -1 21 0 refused 4", "draft 0 9 1 0 refused 4");
    edge("31: -4 and -6 ahead of -2", "p0030;", "draft 0 0 1 2 refused 4", "draft 0 9 2 2 refused 6");
  }

  private static void shares() {
    edge("32: without PEOPLE 0", "", "shares 0 = 0", "shares 1 = 0");
    edge("32: one", "p0000;c099;", "shares 0 = 99", "shares 1 = 0");
    edge("32: cut", TWO + "c000;c101;", "shares 0 = 0", "shares 1 = 1");
    edge("32: nothing is left over", TWO + "c000;c102;", "shares 0 = 1", "shares 1 = 0");
    edge("32: the most left over, of six", SIX_PAUPERS + "c049;", "shares 0 = 49", "shares 1 = 5");
    edge("32: without CANDLES", TWO + "c000;c100;", "shares 0 = 0", "shares 1 = 0");
    edge("32: -2", TWO, "shares 2 refused 2", "shares -1 refused 2");
    edge("32: -2 without PEOPLE too", "", "shares 2 refused 2");
  }

  private static void unlit() {
    edge("39: nobody", "", "unlit = 0");
    edge("39: none", TWO + "l0;l1;", "unlit = 0");
    edge("39: all of six", SIX_PAUPERS, "unlit = 63");
    edge("39: CANDLE 1 is above 0", TWO + "c001;", "unlit = 3");
    edge("39: CANDLE 0 is not", TWO + "c000;", "unlit = 2");
    edge("39: burnt out", TWO + "c001;l0;", "hours 1", "unlit = 2");
  }

  private static void gap() {
    edge("40: -9", "", "gap 1 = -9", "gap 12 = -9");
    edge("40: of several the least, none more", TWO, "gap 12 = 0");
    edge("40: of several the least", TWO + "p0000;c100;c200;", "gap 12 = 1");
    edge("40: the last of six", SIX_PAUPERS + "c500;", "gap 1 = 5");
    edge("40: 1 HOUR", TWO + "c001;c100;", "gap 1 = 1");
    edge("40: 12 HOURS", TWO + "c011;c110;", "gap 10 = 0", "gap 11 = 1", "gap 12 = 1");
    edge("40: CANDLE 99, not 98: 8 more, not 7", "p5000;p3065;c005;c100;", "gap 12 = 1");
    edge("40: CANDLE 99, not 100: 11 more, not 12", "p5000;p3040;c001;c100;", "gap 12 = 0");
    edge("40: PAGES 999 at most", "p5000;p5000;", TILL_990, "sets 1 2 2", "gap 11 = 0", "gap 12 = 1");
    edge("40: -4 1", TWO, "gap 0 refused 4", "gap -2147483648 refused 4");
    edge("40: -6 12", TWO, "gap 13 refused 6", "gap 2147483647 refused 6");
    edge("40: -4 and -6 without PEOPLE too", "", "gap 0 refused 4", "gap 13 refused 6");
  }

  private static void same() {
    edge("41: nobody", "", "same = 0");
    edge("41: alone", "p0000;", "same = 0");
    edge("41: two", TWO, "same = 1");
    edge("41: six", SIX_PAUPERS, "same = 15");
    edge("41: without light they last alike long", "p0099;p5000;c000;c100;", "same = 1");
    edge("41: the last HOUR begun counts", "p0030;p0030;c005;c108;", "same = 1");
    edge("41: one tenth more", "p0030;p0030;c004;c105;", "same = 0");
  }

  private static void lots() {
    edge("45: 1 night", "p5000;c005;", "lots 1 7 0 = 5", "lots 1 7 1 = 1");
    edge("45: 20 nights, each from now", "p5000;c005;", "lots 20 7 0 = 100", "lots 20 7 1 = 20");
    edge("45: a NIGHT of 8 HOURS", "p5000;", "lots 1 7 0 = 8", "lots 1 7 1 = 0");
    edge("45: CANDLE 0 behind just 8", "p5000;c008;", "lots 1 7 0 = 8", "lots 1 7 1 = 1");
    edge("45: CANDLE 1 behind 8", "p5000;c009;", "lots 1 7 1 = 0");
    edge("45: CANDLES that are 0 now", "p5000;c000;", "lots 3 7 0 = 0", "lots 3 7 1 = 3");
    edge("45: nobody", "", "lots 20 7 0 = 0", "lots 20 7 1 = 0");
    edge("45: PAGES 999 at most", "p5000;", TILL_990, "hours 2", "sets 0 2 99", "lights 0", "hours 7", "lots 1 7 0 = 2",
        "lots 20 7 0 = 40");
    edge("45: HOUR above 999 is nothing in mind", "p5000;p5000;", TILL_990, "hours 9", "sets 0 2 0", "lots 2 7 0 = 16");
    edge("45: HOLDS of now do not matter", "p0000;p0000;c016;", "lots 5 1 0 = 64", "bring 1 0 999", "lots 5 1 0 = 64");
    edge("45: COUSINS give what is drawn", "p0000;p1000;t01;c016;", "lots 1 1 0 = 13");
    edge("45: nothing has changed", "p0007;", "lots 20 7 0", "personOf 0 2 = 7", "personOf 0 4 = 50", "count 1 = 0",
        "count 8 = 0");
  }

  // Draws of seed 1: 38, 58; of 2147483647: 29, 29, 22, 18, 13, 26, 20, 23; of 0: 0, 48, 28, 37, 18, 7, 25, 1; of 5: 55,
  // 57, 56, 17, 53, 44, 44, 27.
  private static void draws() {
    edge("45: seed 1", "p0000;c016;", "lots 1 1 0 = 4", "lots 2 1 0 = 7");
    edge("45: seed 0", "p0000;c016;", "lots 1 0 0 = 8", "lots 2 0 0 = 12", "lots 8 0 0 = 52");
    edge("45: an int, wrapping: the greatest", "p0000;c016;", "lots 1 2147483647 0 = 6", "lots 8 2147483647 0 = 52");
    edge("45: an int, wrapping: the least", "p0000;c016;", "lots 1 -2147483648 0 = 8", "lots 8 -2147483648 0 = 52");
    edge("45: an int, wrapping: below 0", "p0000;c016;", "lots 1 -1 0 = 6", "lots 2 -1 0 = 12", "lots 8 -1 0 = 52");
    edge("45: without its sign's bit", "p0000;c016;", "lots 8 5 0 = 34", "lots 8 -2147483643 0 = 34");
  }

  private static void lotsRefused() {
    edge("45: -4", TWO, "lots 0 7 0 refused 4", "lots -2147483648 7 0 refused 4");
    edge("45: -6 20", TWO, "lots 21 7 0 refused 6", "lots 2147483647 7 0 refused 6");
    edge("45: -2", TWO, "lots 1 7 2 refused 2", "lots 20 7 -1 refused 2");
    edge("45: -4 and -6 ahead of -2", TWO, "lots 0 7 2 refused 4", "lots 21 7 2 refused 6");
  }
}
