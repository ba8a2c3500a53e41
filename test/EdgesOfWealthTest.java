/** The edges of promises 33 to 38: who is rich, and COUSINS. */
public final class EdgesOfWealthTest extends Edges {
  private static final String TWO = "p0000;p0000;";
  private static final String SIX_PAUPERS = "p5000;p5000;p5000;p5000;p5000;p5000;";

  public static void main(String[] args) {
    richest();
    poorest();
    mean();
    apart();
    ring();
    above();
    trusted();
    end();
  }

  private static void richest() {
    edge("33: RICHEST -9", "", "richest 0 = -9");
    edge("33: RICHEST alone, WEALTH 0", "p0000;", "richest 0 = 0");
    edge("33: RICHEST, of several the least", "p0000;p0030;p1020;", "richest 0 = 1");
    edge("33: RICHEST by 1, the last of six", SIX_PAUPERS.substring(6) + "p5100;", "richest 0 = 5");
    edge("33: RICHEST by WEALTH, not by HOLDS", "p2099;p0050;", "richest 0 = 1");
    edge("33: -2", TWO, "richest 2 refused 2", "richest -1 refused 2");
    edge("33: -2 without PEOPLE too", "", "richest 2 refused 2");
  }

  private static void poorest() {
    edge("33: POOREST -9", "", "richest 1 = -9");
    edge("33: POOREST alone", "p0099;", "richest 1 = 0");
    edge("33: POOREST, of several the least", "p0030;p0010;p1000;", "richest 1 = 1");
    edge("33: POOREST by 1, the last of six", "p5100;p5100;p5100;p5100;p5100;p5000;", "richest 1 = 5");
    edge("33: POOREST, all alike", SIX_PAUPERS, "richest 0 = 0", "richest 1 = 0");
  }

  private static void mean() {
    edge("34: 0 over 1 of none", "", "mean 0 = 0", "mean 1 = 1");
    edge("34: 0 as 0 over 1", TWO, "mean 0 = 0", "mean 1 = 1");
    edge("34: lowest terms", "p0003;p0003;p0003;p0003;p0003;p0000;", "mean 0 = 5", "mean 1 = 2");
    edge("34: lowest terms, a whole one", "p0007;p0005;", "mean 0 = 6", "mean 1 = 1");
    edge("34: no lower terms", "p0007;p0000;p0000;p0000;p0000;p0000;", "mean 0 = 7", "mean 1 = 6");
    edge("34: one alone", "p0099;", "mean 0 = 99", "mean 1 = 1");
    edge("34: most", "p3000;p5000;h099;", "bring 1 0 999", "mean 0 = 1197", "mean 1 = 2");
    edge("34: -2", TWO, "mean 2 refused 2", "mean -1 refused 2");
    edge("34: -2 without PEOPLE too", "", "mean 2 refused 2");
  }

  private static void apart() {
    edge("35: 0 without PEOPLE", "", "apart = 0");
    edge("35: alone", "p0099;", "apart = 0");
    edge("35: all alike", "p0010;p1000;", "apart = 0");
    edge("35: the least 0", "p0000;p0099;", "apart = 99");
    edge("35: the first is the most, the last the least", "p0099;p0050;p0001;", "apart = 98");
    edge("35: most", "p3000;p5000;h099;", "bring 1 0 999", "apart = 1197");
  }

  private static void ring() {
    edge("36: he counted, alone", "p0000;", "ring 0 = 1");
    edge("36: till there is none", "p0000;p0000;p0000;t01;t12;", "ring 0 = 3", "ring 1 = 2", "ring 2 = 1");
    edge("36: till one comes again, the first", TWO + "t01;t10;", "ring 0 = 2", "ring 1 = 2");
    edge("36: till one comes again, another", "p0000;p0000;p0000;t01;t12;t21;", "ring 0 = 3", "ring 1 = 2",
        "ring 2 = 2");
    edge("36: all of six, one behind the other", SIX_PAUPERS + "t01;t12;t23;t34;t45;", "ring 0 = 6", "ring 5 = 1");
    edge("36: all of six, round", SIX_PAUPERS + "t01;t12;t23;t34;t45;t50;", "ring 0 = 6", "ring 5 = 6");
    edge("36: all of six, the last two round", SIX_PAUPERS + "t01;t12;t23;t34;t45;t54;", "ring 0 = 6", "ring 3 = 3");
    edge("36: -1", TWO, "ring 2 refused 1", "ring -1 refused 1");
    edge("36: -1 without PEOPLE", "", "ring 0 refused 1");
  }

  private static void above() {
    edge("37: v 0: all", TWO, "above 0 = 2");
    edge("37: v or more", "p0030;p0031;p0029;", "above 30 = 2", "above 31 = 1", "above 32 = 0");
    edge("37: v 999", TWO, "bring 1 0 998", "above 999 = 0", "bring 1 0 1", "above 999 = 1");
    edge("37: WEALTH above 999", "p1000;p0000;", "bring 1 0 999", "above 999 = 1");
    edge("37: nobody", "", "above 0 = 0");
    edge("37: -4", TWO, "above -1 refused 4", "above -2147483648 refused 4");
    edge("37: -6 999", TWO, "above 1000 refused 6", "above 2147483647 refused 6");
  }

  private static void trusted() {
    edge("38: none", TWO, "trusted 0 = 0");
    edge("38: all others of six", SIX_PAUPERS + "t05;t15;t25;t35;t45;", "trusted 5 = 5", "trusted 0 = 0");
    edge("38: one who is not trusted any more", TWO + "t10;", "trusted 0 = 1", "trusts 1 0 = 0", "trusted 0 = 0");
    edge("38: who trusts is not therefore trusted", TWO + "t01;", "trusted 0 = 0", "trusted 1 = 1");
    edge("38: -1", TWO, "trusted 2 refused 1", "trusted -1 refused 1");
    edge("38: -1, nobody is the COUSIN of those who have none", TWO, "trusted -9 refused 1");
  }
}
