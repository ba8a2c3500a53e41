/** The edges of promises 28, 29 and 42 to 44: the ROW, and what is told by it. */
public final class EdgesOfRowTest extends Edges {
  private static final String TWO = "p0000;p0000;";
  private static final String SIX_PAUPERS = "p5000;p5000;p5000;p5000;p5000;p5000;";

  public static void main(String[] args) {
    row();
    judge();
    clear();
    holds();
    rows();
    kinds();
    figures();
    whatRefused();
    whoGave();
    end();
  }

  private static void row() {
    edge("42: how many, from 1 on", "", "row 0 = 1", "row 99 = 2", "count 7 = 2");
    edge("42: -4", "", "row -1 refused 4", "row -2147483648 refused 4", "row 0 = 1");
    edge("42: -6 99", "", "row 100 refused 6", "row 2147483647 refused 6", "row 99 = 1");
    edge("42: -6 12, too", "", "11 times row 7", "row 7 = 12", "row 7 refused 6", "count 7 = 12");
    edge("42: -4 ahead of -6", "", "12 times row 7", "row -1 refused 4");
    edge("42: room again behind judge()", "", "12 times row 7", "judge = 0", "row 7 = 1");
    edge("42: room again behind clear()", "", "12 times row 7", "clear = 12", "row 7 = 1");
  }

  private static void judge() {
    edge("43: -9, no ROW", TWO, "judge = -9");
    edge("43: -9, nobody and no ROW", "", "judge = -9");
    edge("43: -9, all are so", TWO, "row 50", "row 50", "judge = -9");
    edge("43: -9, as far as it tells", TWO, "row 50", "judge = -9");
    edge("43: the first that is not so, 0", TWO, "row 49", "row 49", "judge = 0");
    edge("43: the first that is not so, the last", SIX_PAUPERS, "5 times row 50", "row 51", "judge = 5");
    edge("43: CANDLES 0 and 99", TWO + "c000;c199;", "row 0", "row 99", "judge = -9");
    edge("43: nobody there", TWO, "3 times row 50", "judge = 2");
    edge("43: nobody there, told 0", TWO, "row 50", "row 50", "row 0", "judge = 2");
    edge("43: nobody at all", "", "row 0", "judge = 0");
    edge("43: nobody there, behind six", SIX_PAUPERS, "12 times row 50", "judge = 6");
    edge("43: one who is not so goes ahead of nobody", TWO, "row 50", "row 49", "row 0", "judge = 1");
    edge("43: nobody there who was before", TWO, "image", "tell p0000; = 1", "restore", "3 times row 50", "judge = 2");
    edge("43: whichever it answers, the ROW has none then", TWO, "row 50", "judge = -9", "count 7 = 0", "row 49",
        "judge = 0", "count 7 = 0", "judge = -9");
  }

  private static void clear() {
    edge("44: none", "", "clear = 0", "count 7 = 0");
    edge("44: how many it had", "", "row 7", "row 7", "clear = 2", "count 7 = 0", "clear = 0");
    edge("44: 12", "", "12 times row 7", "clear = 12", "clear = 0");
    edge("44: what it told is no more", "p0030;", "row 50", "row 49", "clear", "row 50 = 1", "row 46 = 2",
        "whatHeHolds 0 1 = 30");
  }

  private static void holds() {
    edge("28: HOLDS 0 .. 99, all", "p5000;", "row 50", "row 49", "whatHeHolds 0 0 = 100", "whatHeHolds 0 1 = 0");
    edge("28: HOLDS 0 alone", "p0000;h009;", "row 50", "row 49", "whatHeHolds 0 0 = 1", "whatHeHolds 0 1 = 0");
    edge("28: HOLDS 99 alone", "p0000;h001;", "row 50", "row 39", "whatHeHolds 0 0 = 1", "whatHeHolds 0 1 = 99");
    edge("28: HOLDS 99, not 100", "p0000;", "row 50", "row 39", "whatHeHolds 0 0 = 0", "whatHeHolds 0 1 = -9");
    edge("28: not what he HOLDS above 99", TWO, "bring 1 0 100", "row 50", "row 39", "whatHeHolds 0 0 = 0",
        "whatHeHolds 0 1 = -9");
    edge("28: -9", "p0000;", "row 50", "row 51", "whatHeHolds 0 0 = 0", "whatHeHolds 0 1 = -9", "whatHeHolds 0 2 = 0",
        "whatHeHolds 0 3 = 0", "count 11 = 0");
    edge("28: what he HOLDS now does not matter", "p0077;", "row 50", "row 49", "whatHeHolds 0 0 = 10",
        "whatHeHolds 0 1 = 0");
  }

  private static void rows() {
    edge("28: no ROW", "p0000;", "whatHeHolds 0 0 = 100", "whatHeHolds 0 1 = 0", "whatHeHolds 0 2 = 63",
        "whatHeHolds 0 3 = 1023");
    edge("28: behind 0 HOURS alone", "p0000;", "row 50", "whatHeHolds 0 0 = 100", "whatHeHolds 0 2 = 63");
    edge("28: behind 0 HOURS another CANDLE", "p0000;", "row 49", "whatHeHolds 0 0 = 0", "whatHeHolds 0 1 = -9");
    edge("28: behind 11 HOURS", "p0000;", "row 50", "row 49", "row 48", "row 47", "row 46", "row 45", "row 44", "row 43",
        "row 42", "row 41", "row 40", "row 39", "count 7 = 12", "whatHeHolds 0 0 = 10", "whatHeHolds 0 1 = 0");
    edge("28: the last of 12 is not so", "p0000;", "row 50", "row 49", "row 48", "row 47", "row 46", "row 45", "row 44",
        "row 43", "row 42", "row 41", "row 40", "row 38", "whatHeHolds 0 0 = 0");
    edge("28: CANDLE 0 at least", "p0000;c004;", "row 4", "row 2", "row 0", "row 0", "whatHeHolds 0 0 = 10",
        "whatHeHolds 0 1 = 10");
    edge("28: CANDLE 0 by that much or more", "p0000;c004;", "row 4", "row 0", "whatHeHolds 0 0 = 70",
        "whatHeHolds 0 1 = 30");
    edge("28: CANDLE 0 now", "p0000;c000;", "row 0", "row 0", "whatHeHolds 0 0 = 100", "whatHeHolds 0 2 = 63");
    edge("28: CANDLE 99", "p0000;c099;", "row 99", "row 89", "whatHeHolds 0 0 = 10", "whatHeHolds 0 1 = 90");
    edge("28: LIT now, or not", TWO + "l0;", "row 50", "row 49", "whatHeHolds 0 0 = 10", "whatHeHolds 1 0 = 10");
    edge("28: the ROW stays", "p0000;", "row 50", "row 49", "whatHeHolds 0 0", "whatHeHolds 0 1", "whatHeHolds 0 2",
        "whatHeHolds 0 3", "count 7 = 2");
  }

  private static void kinds() {
    edge("28: KINDS, all but MISER, LORD and HEIR", "p0000;", "row 50", "row 49", "whatHeHolds 0 2 = 45");
    edge("28: KINDS, LORD and HEIR", "p0000;", "row 50", "row 47", "whatHeHolds 0 2 = 18");
    edge("28: KINDS, MISER alone", "p0005;", "row 50", "row 48", "whatHeHolds 0 2 = 8");
    edge("28: KINDS by his FIGURE, the PAUPER's WEALTH", "p0900;", "row 50", "row 49", "whatHeHolds 0 2 = 45");
    edge("28: KINDS by his FIGURE, the DEBTOR's", "p0129;", "row 50", "row 47", "whatHeHolds 0 2 = 1");
    edge("28: KINDS by what he HIDES", "p0000;h020;", "row 50", "row 41", "whatHeHolds 0 2 = 8");
    edge("28: KINDS by what he HOLDS, 999", TWO, "bring 1 0 999", "sets 0 2 99", "row 99", "row 0",
        "whatHeHolds 0 2 = 11");
  }

  private static void figures() {
    edge("28: FIGURES 0 .. 9, all", "p0400;", "row 50", "row 49", "whatHeHolds 0 3 = 1023");
    edge("28: FIGURES, 0 alone", "p2420;", "row 50", "row 48", "whatHeHolds 0 3 = 1");
    edge("28: FIGURES, all but 0", "p2420;", "row 50", "row 49", "whatHeHolds 0 3 = 1022");
    edge("28: FIGURES, 9 alone", "p2036;h001;", "row 50", "row 49", "whatHeHolds 0 3 = 512");
    edge("28: FIGURES, none", "p2038;", "row 50", "row 49", "whatHeHolds 0 3 = 0");
    edge("28: FIGURES, WEALTH 0 at least", "p2008;", "row 50", "row 49", "whatHeHolds 0 3 = 1023");
    edge("28: FIGURES of a PAUPER", "p5008;", "row 50", "row 49", "whatHeHolds 0 3 = 1023");
  }

  private static void whatRefused() {
    edge("28: -1", TWO, "whatHeHolds 2 0 refused 1", "whatHeHolds -1 0 refused 1");
    edge("28: -2", TWO, "whatHeHolds 0 4 refused 2", "whatHeHolds 0 -1 refused 2");
    edge("28: -1 ahead of -2", TWO, "whatHeHolds 2 4 refused 1");
    edge("29: -1", TWO, "whoGave 2 refused 1", "whoGave -1 refused 1");
  }

  private static void whoGave() {
    edge("29: alone", "p0000;", "whoGave 0 = 0", "row 50", "whoGave 0 = 0");
    edge("29: no ROW: all others", SIX_PAUPERS, "whoGave 0 = 62", "whoGave 5 = 31");
    edge("29: others (bits), the first and the last", "p0030;p0010;p0000;p0000;p0000;p0030;", "row 50", "row 46",
        "whoGave 2 = 33");
    edge("29: himself left out", "p0010;p0010;", "row 50", "row 47", "whoGave 0 = 2", "whoGave 1 = 1");
    edge("29: who HOLDS none", TWO, "row 50", "row 49", "whoGave 0 = 2");
    edge("29: none", TWO, "row 50", "row 48", "whoGave 0 = 0", "count 11 = 0");
    edge("29: all they HOLD, above 99", "p5000;p0000;p0000;", "bring 2 1 100", "row 50", "row 39", "whoGave 2 = 2");
    edge("29: HOLDS 999 at most", "p2000;p0000;c051;", "bring 1 0 999", "sets 1 0 90", "row 51", "row 1",
        "whoGave 0 = 2");
    edge("29: what they HIDE is not given", "p0000;p0000;h150;", "row 50", "row 49", "whoGave 0 = 2");
    edge("29: behind 0 HOURS another CANDLE", TWO, "row 49", "whoGave 0 = 0");
    edge("29: CANDLE 0 at least", "p0000;p0030;p0029;c004;", "row 4", "row 0", "row 0", "whoGave 0 = 2");
    edge("29: the ROW stays", TWO, "row 50", "whoGave 0 = 2", "count 7 = 1");
  }
}
