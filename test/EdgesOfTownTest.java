/** The edges of promises 2 and 3: letters, statements, and the two kinds of FAULT. */
public final class EdgesOfTownTest extends Edges {
  private static final String TWO = "p0000;p0000;";
  private static final String SIX_PAUPERS = "p5000;p5000;p5000;p5000;p5000;p5000;";

  public static void main(String[] args) {
    feed();
    lettersAreNoMore();
    leastAndGreatest();
    toldAgain();
    cannotGoOn();
    somethingLacks();
    outOfRange();
    noSuchOne();
    oneTwice();
    litWithCandle0();
    hourAbove999();
    noRoom();
    firstStatement();
    behindAllAhead();
    oneWithNothing();
    takenBack();
    end();
  }

  private static void feed() {
    edge("2: -4", "", "feed -1 refused 4", "feed -2147483648 refused 4", "feed 0 = 1");
    edge("2: -6 255", "", "feed 256 refused 6", "feed 2147483647 refused 6", "feed 255 = 1");
    edge("2: -6 96", "", "95 times feed 0", "feed 255 = 96", "feed 0 refused 6", "count 6 = 96");
    edge("2: -4 ahead of -6", "", "96 times feed 0", "feed -1 refused 4");
    edge("2: -6 either", "", "96 times feed 0", "feed 256 refused 6");
    edge("2: room again behind town()", "", "96 times feed 0", "town = -1000", "feed 0 = 1");
    edge("2: how many there are, from 1 on", "", "feed 112 = 1", "feed 112 = 2", "feed 0 = 3");
  }

  private static void lettersAreNoMore() {
    edge("3: the letters are no more then", "", "tell p0000; = 1", "town = -1000", "count 0 = 1");
    edge("3: with a FAULT of kind 1 neither", "", "tell p000; = -1004", "town = -1000");
    edge("3: with a FAULT of kind 2 neither", "", "tell l0; = -2000", "town = -1000");
    edge("3: at least one STATEMENT", "", "town = -1000", "count 11 = 0", "count 14 = 0");
    edge("3: at least one STATEMENT, with people too", TWO, "town = -1000", "count 0 = 2");
    edge("3: 96 letters", "", "tell " + SIX_PAUPERS + "n01;".repeat(12) + "l0;l1;l2;l3; = 22",
        "count 1 = 12", "count 2 = 15");
    edge("3: how many STATEMENTS, one", TWO, "tell l0; = 1");
  }

  private static void leastAndGreatest() {
    edge("3: p, the least", "", "tell p0000; = 1", "personOf 0 0 = 0", "personOf 0 1 = 0", "personOf 0 2 = 0");
    edge("3: p, the greatest", "", "tell p5999; = 1", "personOf 0 0 = 5", "personOf 0 1 = 9", "personOf 0 2 = 99");
    edge("3: p, the sixth", "", "tell " + SIX_PAUPERS + " = 6", "count 0 = 6");
    edge("3: p, HOLDS of two digits", "", "tell p0090;p0009; = 2", "personOf 0 2 = 90", "personOf 1 2 = 9");
    edge("3: h, 00 and 99", TWO, "tell h099;h199;h000; = 3", "personOf 0 3 = 0", "personOf 1 3 = 99");
    edge("3: c, 01 and 99", TWO, "tell c001;c199; = 2", "personOf 0 4 = 1", "personOf 1 4 = 99");
    edge("3: c, 00: LIT no more", TWO + "l0;l1;", "tell c000; = 1", "personOf 0 5 = 0", "personOf 1 5 = 1",
        "personOf 0 4 = 0");
    edge("3: c, 01: still LIT", TWO + "l0;", "tell c001; = 1", "personOf 0 5 = 1");
    edge("3: n, 01", TWO, "tell n01; = 1", "count 1 = 1", "count 5 = 2");
    edge("3: n, 12", TWO, "tell n12; = 1", "count 1 = 12", "count 5 = 24");
    edge("3: t and l, the last of six", SIX_PAUPERS, "tell t50;t05;l5; = 3", "personOf 5 7 = 0", "personOf 0 7 = 5",
        "count 2 = 32");
  }

  private static void toldAgain() {
    edge("3: t, told again, not", TWO, "tell t01; = 1", "personOf 0 7 = 1", "tell t01; = 1", "personOf 0 7 = -9");
    edge("3: t, told again in one text", TWO, "tell t01;t01; = 2", "personOf 0 7 = -9");
    edge("3: t, told three times", TWO, "tell t01;t01;t01; = 3", "personOf 0 7 = 1");
    edge("3: t, of another: that one", "p0000;p0000;p0000;", "tell t01;t02; = 2", "personOf 0 7 = 2");
    edge("3: t, told the other way is another", TWO, "tell t01;t10; = 2", "personOf 0 7 = 1", "personOf 1 7 = 0");
    edge("3: t, told again behind trusts()", TWO, "trusts 0 1 = 1", "tell t01; = 1", "personOf 0 7 = -9");
    edge("3: l, told again, not", TWO, "tell l0; = 1", "personOf 0 5 = 1", "tell l0; = 1", "personOf 0 5 = 0");
    edge("3: l, told again in one text", TWO, "tell l0;l1;l0; = 3", "count 2 = 2");
    edge("3: l, told again behind lights()", TWO, "lights 0 = 1", "tell l0; = 1", "count 2 = 0");
  }

  private static void cannotGoOn() {
    String[] texts = {"x", ";", "0", "P", "px", "p;", "p0x", "p00x", "p000x", "p000;", "p0000x", "p00000;", "hx", "h0x",
        "h00x", "h00;", "h000x", "h0000;", "cx", "c0x", "c00x", "c00;", "c000x", "c0000;", "tx", "t0x", "t0;", "t00x",
        "t000;", "lx", "l;", "l0x", "l00;", "nx", "n0x", "n0;", "n00x", "n000;"};
    int[] places = {0, 0, 0, 0, 1, 1, 2, 3, 4, 4, 5, 5, 1, 2,
        3, 3, 4, 4, 1, 2, 3, 3, 4, 4, 1, 2, 2, 3,
        3, 1, 1, 2, 2, 1, 2, 2, 3, 3};
    for (int i = 0; i < texts.length; i++) {
      edge("3: kind 1: the first letter", TWO, "tell " + texts[i] + " = " + (-1000 - places[i]));
      edge("3: kind 1: behind a STATEMENT", TWO, "tell l0;" + texts[i] + "l0; = " + (-1003 - places[i]));
    }
    edge("3: kind 1: beside the digits", "", "tell p/000; = -1001", "tell p0:00; = -1002");
    edge("3: kind 1: letters 0 and 255", "", "feed 0 = 1", "town = -1000", "feed 255 = 1", "town = -1000");
    edge("3: kind 1: a letter above the digits by 256 is none", "", "tell p0000 = -1005", "feed 112", "feed 176",
        "town = -1001");
    edge("3: kind 1: the first one of several", "", "tell xp0x = -1000");
    edge("3: kind 1 ahead of kind 2", TWO, "tell l9;x = -1003", "tell p9999;t00;n99 = -1013");
  }

  private static void somethingLacks() {
    String[] texts = {"p", "p0", "p00", "p000", "p0000", "h", "h0", "h00", "h000", "c", "c0", "c00", "c000", "t", "t0",
        "t01", "l", "l0", "n", "n0", "n01"};
    for (String text : texts) {
      edge("3: kind 1: the end, if something lacks", TWO, "tell " + text + " = " + (-1000 - text.length()));
      edge("3: kind 1: the end behind STATEMENTS", TWO, "tell l0;c150;" + text + " = " + (-1008 - text.length()));
    }
    edge("3: kind 1: the last of 96 letters", TWO, "tell " + "l0;".repeat(31) + "l00 = -1095");
    edge("3: kind 1: the end behind 96 letters", TWO, "tell " + "l0;".repeat(31) + "p00 = -1096");
  }

  private static void outOfRange() {
    edge("3: kind 2: KIND 6", "", "tell p6000; = -2000", "tell p5000; = 1");
    edge("3: kind 2: KIND 9", "", "tell p9000; = -2000");
    edge("3: kind 2: HOURS 00", TWO, "tell n00; = -2000", "tell n01; = 1");
    edge("3: kind 2: HOURS 13", TWO, "tell n13; = -2000", "tell n12; = 1");
    edge("3: kind 2: HOURS 20 and 99", TWO, "tell n20; = -2000", "tell n99; = -2000");
  }

  private static void noSuchOne() {
    String[] texts = {"h200;", "c250;", "t20;", "t02;", "l2;", "h900;", "c950;", "t90;", "t09;", "l9;"};
    for (String text : texts) {
      edge("3: kind 2: no such one", TWO, "tell " + text + " = -2000");
      edge("3: kind 2: no such one yet", TWO, "tell " + text + "p0000; = -2000");
    }
    String[] six = {"h600;", "c650;", "t60;", "t06;", "l6;"};
    for (String text : six) edge("3: kind 2: no such one of six", SIX_PAUPERS, "tell " + text + " = -2000");
    String[] nobody = {"h000;", "c050;", "t01;", "l0;"};
    for (String text : nobody) edge("3: kind 2: nobody at all", "", "tell " + text + " = -2000");
  }

  private static void oneTwice() {
    edge("3: kind 2: one twice", TWO, "tell t00; = -2000", "tell t11; = -2000", "tell t01; = 1");
    edge("3: kind 2: one twice who is not there", TWO, "tell t55; = -2000");
  }

  private static void litWithCandle0() {
    edge("3: kind 2: LIT with CANDLE 0", TWO + "c000;", "tell l0; = -2000", "tell l1; = 1");
    edge("3: kind 2: LIT with CANDLE 0 of the text", TWO, "tell c000;l0; = -2005");
    edge("3: kind 2: CANDLE 1 is above 0", TWO, "tell c001;l0; = 2");
    edge("3: kind 2: burnt to 0 in the text", "p5000;c012;", "tell n12;l0; = -2004", "tell n11;l0; = 2");
  }

  private static void hourAbove999() {
    edge("3: kind 2: HOUR above 999", TWO, "10 times hours 99", "tell n10; = -2000", "tell n09; = 1", "count 1 = 999",
        "tell n01; = -2000");
    edge("3: kind 2: HOUR above 999 by all of the text", TWO, "10 times hours 99", "tell n04;n05;n01; = -2008",
        "tell n04;n05; = 2", "count 1 = 999");
  }

  private static void noRoom() {
    edge("3: kind 2: no room", SIX_PAUPERS, "tell p0000; = -2000", "count 0 = 6");
    edge("3: kind 2: no room behind all of the text", TWO, "tell p0000;p0000;p0000;p0000;p0000; = -2024",
        "tell p0000;p0000;p0000;p0000; = 4");
  }

  private static void firstStatement() {
    edge("3: kind 2: its first letter, not the wrong one", TWO, "tell l0;p0000;t07; = -2009");
    edge("3: kind 2: the first STATEMENT of several", TWO, "tell l0;t00;l7;n00; = -2003");
    edge("3: kind 2: the last STATEMENT", TWO, "tell l0;n01;l1;l2; = -2010");
  }

  private static void behindAllAhead() {
    edge("3: kind 2: behind all ahead of it: who came is there", "", "tell p5000;l0;p5000;t01; = 4");
    edge("3: kind 2: who comes behind is not", "", "tell p5000;t01;p5000; = -2006");
    edge("3: kind 2: a CANDLE set behind does not help", TWO + "c000;", "tell l0;c050; = -2000", "tell c050;l0; = 2");
    edge("3: kind 2: a NIGHT ahead of it", "p0000;p0060;", "tell c107;n01;l1; = -2009", "tell c108;n01;l1; = 3");
    edge("3: kind 2: it is told behind the people there are", TWO, "tell p5700;h212; = 2", "personOf 2 3 = 12");
  }

  private static void oneWithNothing() {
    edge("3: one with nothing", "", "tell p5007; = 1", "personOf 0 3 = 0", "personOf 0 4 = 50", "personOf 0 5 = 0",
        "personOf 0 6 = 0", "personOf 0 7 = -9");
  }

  private static void takenBack() {
    edge("3: a TOWN without FAULT leaves none", TWO, "sets 0 0 5", "count 8 = 1", "tell l0; = 1", "count 8 = 0",
        "back refused 3");
    edge("3: a TOWN with a FAULT of kind 1 leaves it", TWO, "sets 0 0 5", "tell l0 = -1002", "back = 0",
        "personOf 0 2 = 0");
    edge("3: a TOWN with a FAULT of kind 2 leaves it", TWO, "sets 0 0 5", "tell l1;l9; = -2003", "back = 0",
        "personOf 0 2 = 0");
    edge("3: no letters at all leave it", TWO, "sets 0 0 5", "town = -1000", "back = 0");
  }
}
