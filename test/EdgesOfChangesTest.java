/** The edges of promises 7 to 12, 46 and 47, of an HOUR and of a NIGHT. */
public final class EdgesOfChangesTest extends Edges {
  private static final String TWO = "p0000;p0000;";
  // A PAUPER reads 990 PAGES by HOUR 990.
  private static final String TILL_990 = "10 times sets 0 2 99, lights 0, hours 99";

  public static void main(String[] args) {
    trusts();
    lights();
    gives();
    hour();
    hours();
    nights();
    dusk();
    dawn();
    back();
    whatCounts();
    whatLeavesNone();
    image();
    restore();
    end();
  }

  private static void trusts() {
    edge("7: not any more", TWO, "trusts 0 1 = 1", "trusts 0 1 = 0", "personOf 0 7 = -9", "trusts 0 1 = 1");
    edge("7: another instead", "p0000;p0000;p0000;", "trusts 0 1 = 1", "trusts 0 2 = 1", "personOf 0 7 = 2",
        "trusts 0 1 = 1");
    edge("7: -1 one twice", TWO, "trusts 0 0 refused 1", "trusts 1 1 refused 1");
    edge("7: -1 the first", TWO, "trusts 2 0 refused 1", "trusts -1 0 refused 1");
    edge("7: -1 the second", TWO, "trusts 0 2 refused 1", "trusts 0 -1 refused 1");
    edge("7: -1 the second is none, as no COUSIN is", "p0000;", "trusts 0 -9 refused 1", "trusts 0 -1 refused 1");
  }

  private static void lights() {
    edge("8: not any more", TWO, "lights 1 = 1", "count 2 = 2", "lights 1 = 0", "count 2 = 0");
    edge("8: -3 his CANDLE is 0", TWO + "c000;", "lights 0 refused 3", "lights 1 = 1");
    edge("8: CANDLE 1 is not 0", TWO + "c001;", "lights 0 = 1");
    edge("8: -3 burnt out", "p0000;l0;", "hours 50 = 0", "lights 0 refused 3");
    edge("8: -1", TWO, "lights 2 refused 1", "lights -1 refused 1");
  }

  private static void gives() {
    edge("9: 0 coins", "p0030;p0050;", "gives 0 1 0 = 50", "personOf 0 2 = 30");
    edge("9: all he HOLDS", "p0030;p0050;", "gives 0 1 30 = 80", "personOf 0 2 = 0", "gives 0 1 0 = 80");
    edge("9: -6 more than he HOLDS", "p0030;p0050;", "gives 0 1 31 refused 6", "gives 0 1 30 = 80");
    edge("9: -6 more than none", TWO, "gives 0 1 1 refused 6");
    edge("9: -6 what he HIDES is not held", TWO + "h050;", "gives 0 1 1 refused 6");
    edge("9: the other's 999", "p0000;p0010;", "bring 1 0 989", "sets 1 0 11 = 0", "gives 1 0 11 refused 6",
        "gives 1 0 10 = 999", "gives 1 0 1 refused 6", "gives 1 0 0 = 999");
    edge("9: more than 99 at once", TWO, "bring 1 0 999", "gives 0 1 999 = 999", "personOf 0 2 = 0");
    edge("9: -4", "p0030;p0050;", "gives 0 1 -1 refused 4", "gives 0 1 -2147483648 refused 4");
    edge("9: -6 far", "p0030;p0050;", "gives 0 1 2147483647 refused 6");
    edge("9: -1 one twice", "p0030;p0050;", "gives 0 0 5 refused 1", "gives 1 1 -1 refused 1");
    edge("9: -1 either", "p0030;p0050;", "gives 2 0 5 refused 1", "gives 0 2 5 refused 1", "gives -1 0 5 refused 1",
        "gives 0 -1 5 refused 1");
  }

  private static void hour() {
    edge("an HOUR: 0 at least", "p3099;c020;l0;", "hours 1 = 0", "personOf 0 4 = 0");
    edge("an HOUR: just to 0: LIT no more", "p0030;c004;l0;", "hours 1 = 0", "personOf 0 4 = 0", "personOf 0 5 = 0");
    edge("an HOUR: just above 0: still LIT", "p0030;c005;l0;", "hours 1 = 1", "personOf 0 4 = 1", "personOf 0 5 = 1");
    edge("an HOUR: PAGES 1 more in the last one too", "p0030;c004;l0;", "hours 3 = 0", "personOf 0 6 = 1");
    edge("an HOUR: who is not LIT neither burns nor reads", TWO + "l0;", "hours 9 = 1", "personOf 1 4 = 50",
        "personOf 1 6 = 0");
    edge("an HOUR: HOUR is 1 more with nobody there", "", "hours 1 = 0", "count 1 = 1");
    edge("an HOUR: PAGES 999 at most", "p5000;", TILL_990, "sets 0 2 99", "lights 0", "hours 9 = 1", "count 1 = 999",
        "personOf 0 6 = 999", "behind 0 1 1 = 999");
    edge("an HOUR: PAGES 998 become 999", "p5000;", "hours 1", TILL_990, "sets 0 2 99", "lights 0", "hours 8 = 1",
        "personOf 0 6 = 998", "behind 0 1 1 = 999", "behind 0 2 1 = 999");
  }

  private static void hours() {
    edge("10: -4 below 1", TWO, "hours 0 refused 4", "hours -1 refused 4", "hours 1 = 0");
    edge("10: -4 far below", TWO, "hours -2147483648 refused 4");
    edge("10: -6 99", TWO, "hours 100 refused 6", "hours 99 = 0", "count 1 = 99");
    edge("10: -6 far above, HOUR and n together wrap around", TWO, "hours 99", "hours 2147483647 refused 6");
    edge("10: -6 HOUR above 999", TWO, "10 times hours 99", "hours 10 refused 6", "hours 9 = 0", "count 1 = 999",
        "hours 1 refused 6");
    edge("10: -6 HOUR above 999 by 99", TWO, "9 times hours 99", "hours 10", "hours 99 refused 6", "hours 98 = 0",
        "count 1 = 999");
    edge("10: -4 ahead of -6 at HOUR 999", TWO, "10 times hours 99", "hours 9", "hours 0 refused 4");
    edge("10: how many are LIT, none", TWO, "hours 1 = 0");
    edge("10: how many are LIT, all", TWO + "l0;l1;", "hours 1 = 2", "hours 48 = 2", "hours 1 = 0");
  }

  private static void nights() {
    edge("11: -4 below 1", TWO, "nights 0 refused 4", "nights -1 refused 4", "nights 1 = 2");
    edge("11: -4 far below", TWO, "nights -2147483648 refused 4");
    edge("11: -6 12", TWO, "nights 13 refused 6", "nights 12 = 24", "count 1 = 12");
    edge("11: -6 far above, HOUR and n together wrap around", TWO, "hours 99", "nights 2147483647 refused 6");
    edge("11: -6 HOUR above 999", TWO, "10 times hours 99", "nights 10 refused 6", "nights 9 = 18", "count 1 = 999",
        "nights 1 refused 6");
    edge("11: -4 ahead of -6 at HOUR 999", TWO, "10 times hours 99", "hours 9", "nights 0 refused 4");
    edge("11: PAGES more, not all", "p5000;c099;l0;", "hours 5", "nights 3 = 3", "personOf 0 6 = 8");
    edge("11: nobody", "", "nights 12 = 0", "count 1 = 12");
  }

  private static void dusk() {
    edge("at DUSK: by numbers, a lesser one's coins go on", "p5010;p0020;p5000;t01;t12;c104;", "nights 4 = 12");
    edge("at DUSK: by numbers, a greater one's coins stay", "p0000;p0000;p0020;t21;t10;c109;c009;", "nights 3 = 9",
        "personOf 1 4 = 0", "personOf 0 4 = 6");
    edge("at DUSK: all he HOLDS, not what he HIDES", "p3020;p5000;h010;t01;", "nights 1 = 2", "personOf 0 4 = 45");
    edge("at DUSK: who has no COUSIN gives none", "p3020;p5000;t10;", "nights 1 = 2", "personOf 0 4 = 45");
    edge("at DUSK: HOLDS to 999 nothing is lost", TWO + "p5000;t20;", "bring 1 0 950", "sets 2 0 49",
        "nightOfAll 1 1 = 0", "nights 1", "count 3 = 999");
    edge("at DUSK: HOLDS 999 at most: what is above is lost", TWO + "p5000;t20;", "bring 1 0 950", "sets 2 0 50",
        "nightOfAll 1 1 = 1", "nights 1", "personOf 0 2 = 974", "personOf 2 2 = 25");
    edge("at DUSK: to one who HOLDS 999 all is lost", "p5000;p0000;p5000;t20;", "bring 1 0 999", "sets 2 0 50",
        "nightOfAll 1 1 = 50", "nights 1", "personOf 0 2 = 949", "personOf 2 2 = 50");
    edge("at DUSK: a CANDLE above 0 is LIT", TWO + "c001;", "nights 1 = 2", "personOf 0 6 = 1");
    edge("at DUSK: a CANDLE of 0 is not", TWO + "c000;", "nights 1 = 1", "personOf 0 6 = 0");
    edge("at DUSK: who is LIT stays so", TWO + "l0;", "nights 3 = 6", "personOf 0 6 = 3");
  }

  private static void dawn() {
    edge("at DAWN: all, of one who is HONEST", "p0021;p0400;t01;", "nights 1", "personOf 0 2 = 21", "personOf 1 2 = 0");
    edge("at DAWN: half, cut, of one who is not", "p0021;p0300;t01;", "nights 1", "personOf 0 2 = 10",
        "personOf 1 2 = 11");
    edge("at DAWN: half, cut, of 1 is none", "p0001;p3900;t01;", "nights 1", "personOf 0 2 = 0", "personOf 1 2 = 1");
    edge("at DAWN: half of 0", "p0000;p3907;t01;", "nights 1", "personOf 0 2 = 0", "personOf 1 2 = 7");
    edge("at DAWN: from the greatest number down", "p0010;p5000;p5000;t01;t12;", "nights 1", "personOf 2 2 = 0",
        "personOf 1 2 = 0", "personOf 0 2 = 10");
    edge("at DAWN: what a greater one has got back goes on", "p0010;p0004;p5000;t01;t12;", "nights 1",
        "personOf 1 2 = 9", "personOf 0 2 = 5");
    edge("at DAWN: no more than the COUSIN HOLDS then", "p0010;p5004;p3000;t01;t12;", "nights 1", "personOf 2 2 = 7",
        "personOf 1 2 = 0", "personOf 0 2 = 7");
    edge("at DAWN: just what the COUSIN HOLDS then", "p0010;p5010;p3000;t01;t12;", "nights 1", "personOf 2 2 = 10",
        "personOf 1 2 = 0", "personOf 0 2 = 10");
    edge("at DAWN: the COUSIN HOLDS none then", "p0010;p5000;p5000;t01;t10;", "nights 1", "personOf 0 2 = 10",
        "personOf 1 2 = 0");
    edge("at DAWN: of what he gave, not of what came to him", "p5040;p3010;p0409;t01;t12;", "nights 1",
        "personOf 2 2 = 9", "personOf 1 2 = 30", "personOf 0 2 = 20");
    edge("at DAWN: all are LIT no more", TWO + "l0;", "nights 1 = 2", "count 2 = 0", "unlit = 3");
    edge("at DAWN: COUSINS stay", TWO + "t01;", "nights 1", "personOf 0 7 = 1");
    edge("a NIGHT of 1 HOUR and of 12", TWO, "nights 1", "count 1 = 1", "nights 12", "count 1 = 13");
  }

  private static void back() {
    edge("12: -3 none", TWO, "back refused 3", "sets 0 0 5", "back = 0", "back refused 3");
    edge("12: how many can still be", TWO, "3 times sets 0 0 5", "back = 2", "back = 1", "back = 0");
    edge("12: the latest first", TWO, "sets 0 0 5", "sets 0 0 6", "sets 0 0 7", "back", "personOf 0 2 = 6", "back",
        "personOf 0 2 = 5", "back", "personOf 0 2 = 0");
    edge("12: 8", TWO, "sets 0 0 1", "sets 0 0 2", "sets 0 0 3", "sets 0 0 4", "sets 0 0 5", "sets 0 0 6", "sets 0 0 7",
        "sets 0 0 8", "8 times back", "personOf 0 2 = 0", "back refused 3");
    edge("12: 8 at most, older ones no more", TWO, "sets 0 0 1", "sets 0 0 2", "sets 0 0 3", "sets 0 0 4", "sets 0 0 5",
        "sets 0 0 6", "sets 0 0 7", "sets 0 0 8", "sets 0 0 9", "count 8 = 8", "8 times back", "personOf 0 2 = 1",
        "back refused 3");
    edge("12: 8 at most, far on", TWO, "97 times sets 0 0 7", "8 times sets 0 0 9", "sets 0 0 1", "7 times back",
        "personOf 0 2 = 9", "back = 0", "personOf 0 2 = 9", "back refused 3");
    edge("12: what is TAKEN BACK makes room", TWO, "9 times sets 0 0 7", "back = 7", "sets 0 0 9 = 7", "count 8 = 8");
    edge("12: people who are LIT no more are LIT again", TWO + "l0;", "sets 0 2 0", "back", "personOf 0 5 = 1");
    edge("12: HOUR 999 taken back", TWO, "10 times hours 99", "hours 9", "hours 1 refused 6", "back", "count 1 = 990",
        "hours 9 = 0");
  }

  private static void whatCounts() {
    edge("12: sets()", "p0030;", "sets 0 0 40", "sets 0 1 7", "sets 0 2 9", "count 8 = 3", "3 times back",
        "personOf 0 2 = 30", "personOf 0 3 = 0", "personOf 0 4 = 50");
    edge("12: trusts()", TWO, "trusts 0 1 = 1", "count 8 = 1", "back = 0", "personOf 0 7 = -9");
    edge("12: trusts(), not any more", TWO + "t01;", "trusts 0 1 = 0", "count 8 = 1", "back = 0", "personOf 0 7 = 1");
    edge("12: lights()", TWO, "lights 0 = 1", "count 8 = 1", "back = 0", "personOf 0 5 = 0");
    edge("12: gives()", "p0030;p0000;", "gives 0 1 30", "count 8 = 1", "back = 0", "personOf 0 2 = 30",
        "personOf 1 2 = 0");
    edge("12: nights()", "p0030;p3000;t01;", "nights 3", "count 8 = 1", "back = 0", "personOf 0 2 = 30",
        "personOf 1 2 = 0", "personOf 0 4 = 50", "personOf 1 6 = 0", "count 1 = 0");
    edge("12: hours()", "p0030;l0;", "hours 13 = 0", "count 8 = 1", "back = 0", "personOf 0 4 = 50", "personOf 0 5 = 1",
        "personOf 0 6 = 0", "count 1 = 0");
    edge("12: also if all stays as it was, sets()", "p0030;", "sets 0 0 30 = 30", "count 8 = 1", "back = 0");
    edge("12: also if all stays as it was, gives()", "p0030;p0000;", "gives 0 1 0 = 0", "count 8 = 1", "back = 0");
    edge("12: what is refused does not count", "p0030;p0000;c100;", "sets 0 0 100 refused 6", "trusts 0 0 refused 1",
        "lights 1 refused 3", "gives 0 1 31 refused 6", "nights 13 refused 6", "hours 0 refused 4", "count 8 = 0");
    edge("12: what is in mind does not count", TWO, "night 0 5 0", "behind 0 5 0", "bestFriend 0 0", "lots 5 5 0",
        "count 8 = 0");
    edge("12: letters, the ROW and the IMAGE do not count", TWO, "feed 112", "row 5", "judge", "clear", "image",
        "count 8 = 0");
    edge("12: letters and the ROW are not taken back", TWO, "sets 0 0 5", "feed 112", "row 5", "back = 0", "count 6 = 1",
        "count 7 = 1");
  }

  private static void whatLeavesNone() {
    edge("12: person() leaves none", TWO, "3 times sets 0 0 5", "person 0 0 0 = 2", "count 8 = 0", "back refused 3");
    edge("12: person() refused leaves it", TWO, "sets 0 0 5", "person 6 0 0", "person 0 -1 0", "person 0 10 0",
        "back = 0", "personOf 0 2 = 0");
    edge("12: person() without room leaves it", "p5000;p5000;p5000;p5000;p5000;p5000;", "sets 0 0 5", "person 0 0 0",
        "back = 0");
    edge("12: restore() leaves none", TWO, "image", "sets 0 0 5", "restore", "count 8 = 0", "back refused 3");
    edge("12: restore() refused leaves it", TWO, "sets 0 0 5", "restore refused 3", "back = 0", "personOf 0 2 = 0");
    edge("12: image() leaves it", TWO, "sets 0 0 5", "image", "count 8 = 1", "back = 0", "personOf 0 2 = 0");
    edge("12: anew behind it", TWO, "8 times sets 0 0 5", "person 0 0 0", "sets 0 0 6", "back = 0", "personOf 0 2 = 5",
        "back refused 3");
  }

  private static void image() {
    edge("46: of nobody", "", "image = 0", "person 0 0 0", "hours 5", "restore = 0", "count 0 = 0", "count 1 = 0");
    edge("46: HOUR", TWO, "hours 7", "image = 7");
    edge("46: HOUR 999", TWO, "10 times hours 99", "hours 9", "image = 999", "restore = 999", "hours 1 refused 6");
    edge("46: the later one alone", TWO, "image", "sets 0 0 5", "image", "sets 0 0 6", "restore", "personOf 0 2 = 5");
    edge("46: letters, the ROW and REFUSALS stay", TWO, "feed 112", "row 5", "lasts 2", "image", "count 6 = 1",
        "count 7 = 1", "count 11 = 1");
    edge("46: it is not changed by what comes", TWO, "image", "nights 3", "restore = 0", "personOf 0 4 = 50",
        "personOf 0 6 = 0");
  }

  private static void restore() {
    edge("47: -3 there is none", TWO, "restore refused 3", "image", "restore = 0");
    edge("47: it stays", TWO, "image", "sets 0 0 5", "restore", "sets 0 0 6", "restore = 0", "personOf 0 2 = 0");
    edge("47: it is not changed by what comes then", TWO, "image", "restore", "sets 0 0 5", "lights 0", "trusts 0 1",
        "restore", "personOf 0 2 = 0", "personOf 0 5 = 0", "personOf 0 7 = -9");
    edge("47: fewer people", "p0007;", "image", "tell p5999;t01; = 2", "restore", "count 0 = 1", "personOf 1 0 refused 1",
        "personOf 0 7 = -9", "person 0 0 0 = 1");
    edge("47: nothing is told of those who are gone", "p0007;", "image", "tell p5999;h199;l1;n03;l1; = 5", "restore",
        "count 2 = 0", "count 3 = 7", "count 4 = 50", "count 5 = 0");
    edge("47: who comes in the place of one who is gone is as at first", "p0007;", "image",
        "tell p5999;h199;t10;t01;l1;n03;l1; = 7", "restore", "person 0 0 0 = 1", "personOf 1 3 = 0", "personOf 1 4 = 50",
        "personOf 1 5 = 0", "personOf 1 6 = 0", "personOf 1 7 = -9");
    edge("47: more people do not come of a FAULT", "p0007;", "image", "tell p5999;x = -1006", "restore", "count 0 = 1");
    edge("47: six people", "p5000;p5000;p5000;p5000;p5000;p5009;", "image", "sets 5 0 1", "restore", "count 0 = 6",
        "personOf 5 2 = 9", "person 0 0 0 refused 6");
    edge("47: all of one", "p4730;p0000;h012;c034;t01;l0;", "image", "hours 2", "image = 2",
        "sets 0 0 1", "sets 0 1 1", "sets 0 2 1", "lights 0", "trusts 0 1", "hours 3", "restore = 2", "personOf 0 0 = 4",
        "personOf 0 1 = 7", "personOf 0 2 = 30", "personOf 0 3 = 12", "personOf 0 4 = 24", "personOf 0 5 = 1",
        "personOf 0 6 = 2", "personOf 0 7 = 1", "count 1 = 2");
    edge("47: all but it", TWO, "image", "restore", "restore = 0");
    edge("47: all but letters", TWO, "image", "feed 112", "restore", "count 6 = 1", "feed 48 = 2");
    edge("47: letters of then do not come", TWO, "feed 112", "image", "town", "restore", "count 6 = 0");
    edge("47: all but the ROW", TWO, "image", "row 5", "restore", "count 7 = 1", "clear", "restore", "count 7 = 0");
    edge("47: all but REFUSALS", TWO, "image", "lasts 2", "restore", "count 11 = 1");
  }
}
