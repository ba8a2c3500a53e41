/** Promises 2 and 3: letters, and the towns that they tell. */
public final class TownTest extends Due {
  public static void main(String[] args) {
    letters();
    statements();
    form();
    sense();
    senseBehindWhatIsAhead();
    nothingComesWithAFault();
    whatIsLeftBehind();
    nightInATown();
    end();
  }

  private static void letters() {
    FasterForTheRich x = new FasterForTheRich();
    due("2: below", x.feed(-1), -4);
    due("2: above", x.feed(256), -6);
    due("2: none came", x.count(6), 0);
    due("2: the least", x.feed(0), 1);
    due("2: the greatest", x.feed(255), 2);
    for (int i = 3; i <= 96; i++) due("2: letter " + i, x.feed(112), i);
    due("2: no room", x.feed(112), -6);
    due("2: below ahead of room", x.feed(-5), -4);
    due("2: 96", x.count(6), 96);
    due("3: a FAULT at once", x.town(), -1000);
    due("3: no letters then", x.count(6), 0);
    due("2: room again", x.feed(112), 1);
  }

  private static void statements() {
    FasterForTheRich x = new FasterForTheRich();
    due("3: two", town(x, "p5907;p2000;"), 2);
    due("3: KIND", x.personOf(0, 0), 5);
    due("3: FIGURE", x.personOf(0, 1), 9);
    due("3: HOLDS", x.personOf(0, 2), 7);
    due("3: the other", x.personOf(1, 0), 2);
    due("3: none of letters", x.count(6), 0);
    due("3: more, behind who there is", town(x, "h012;c103;t01;l1;p1299;"), 5);
    due("3: HIDES", x.personOf(0, 3), 12);
    due("3: CANDLE", x.personOf(1, 4), 3);
    due("3: COUSIN", x.personOf(0, 7), 1);
    due("3: LIT", x.personOf(1, 5), 1);
    due("3: three", x.count(0), 3);
    due("3: told again", town(x, "t01;l1;"), 2);
    due("3: no COUSIN", x.personOf(0, 7), -9);
    due("3: not LIT", x.personOf(1, 5), 0);
    due("3: another COUSIN", town(x, "t01;t02;"), 2);
    due("3: that one", x.personOf(0, 7), 2);
    due("3: CANDLE 0 puts out", town(x, "l1;c100;"), 2);
    due("3: LIT no more", x.personOf(1, 5), 0);
    due("3: and CANDLE 0 stays unlit", town(x, "c105;"), 1);
    due("3: unlit", x.personOf(1, 5), 0);
  }

  private static void form() {
    String[] texts = {"", "p", "p1", "p12", "p123", "p1234", "p1234;p", "p1234x", "p12x4;", "x", ";", "p1234;;", "P1234;",
        "h12;", "h1234;", "c99;", "t0;", "t012;", "l;", "l00;", "n5;", "n005;", "p0000;n", "p0000;n1", "p0000; ",
        "p0000;q", "p/000;", "p:000;", "p6000;x", "h", "h0", "h00", "h000", "t00", "l0", "n00", "p0000;t01;l0;c0"};
    int[] places = {0, 1, 2, 3, 4, 5, 7, 5, 3, 0, 0, 6, 0,
        3, 4, 3, 2, 3, 1, 2, 2, 3, 7, 8, 6,
        6, 1, 1, 6, 1, 2, 3, 4, 3, 2, 3, 15};
    for (int i = 0; i < texts.length; i++) {
      FasterForTheRich x = new FasterForTheRich();
      due("3: the form of \"" + texts[i] + "\"", town(x, texts[i]), -1000 - places[i]);
      due("3: nothing of \"" + texts[i] + "\" came", x.count(0), 0);
      due("3: its letters are gone", x.count(6), 0);
      for (int what = 11; what <= 16; what++) due("3: nothing is counted", x.count(what), 0);
    }
    StringBuilder many = new StringBuilder("p0000;");
    while (many.length() < 96) many.append("l0;");
    FasterForTheRich x = new FasterForTheRich();
    due("3: 96 letters", town(x, many.toString()), 31);
    due("3: 96 letters, the last lacks", town(x, many.replace(93, 96, "h00").toString()), -1096);
  }

  private static void sense() {
    String one = "p0000;p0000;";
    String[] texts = {"p6000;", "p9999;", "h200;", "h900;", "c200;", "t02;", "t20;", "t00;", "t99;", "l2;", "n00;", "n13;",
        "n99;", "p0000;p0000;p0000;p0000;p0000;"};
    int[] places = {0, 0, 0, 0, 0, 0, 0, 0, 0, 0, 0, 0, 0, 24};
    for (int i = 0; i < texts.length; i++) {
      FasterForTheRich x = of(one);
      due("3: the sense of " + texts[i], town(x, texts[i]), -2000 - places[i]);
      due("3: behind others " + texts[i], town(x, "l0;n01;" + texts[i]), -2000 - places[i] - 7);
      due("3: the form goes ahead of " + texts[i], town(x, texts[i] + "h"), -1000 - texts[i].length() - 1);
      due("3: nothing of it came", x.count(0), 2);
      due("3: no letters are left", x.count(6), 0);
      for (int what = 11; what <= 16; what++) due("3: nothing is counted", x.count(what), 0);
    }
    FasterForTheRich x = of(one);
    due("3: the least and the greatest", town(x, "n01;n12;h199;c199;p5999;"), 5);
  }

  private static void senseBehindWhatIsAhead() {
    FasterForTheRich x = new FasterForTheRich();
    due("3: who comes ahead is there", town(x, "p0000;l0;"), 2);
    due("3: who comes behind is not", town(x, "l1;p0000;"), -2000);
    due("3: LIT with CANDLE 0", town(x, "c000;l0;"), -2005);
    due("3: it burns out in the text's NIGHT", town(x, "c005;n05;l0;"), -2009);
    due("3: it does not", town(x, "c006;n05;l0;"), 3);
    due("3: one more has room", town(x, "p0000;p0000;p0000;p0000;p0000;"), 5);
    due("3: not six more", town(x, "p0000;"), -2000);
    for (int i = 0; i < 10; i++) x.hours(98);
    due("3: HOUR", x.count(1), 985);
    due("3: HOUR above 999", town(x, "n12;n03;"), -2004);
    due("3: HOUR 999", town(x, "n12;n02;"), 2);
    due("3: not one more", town(x, "n01;"), -2000);
    due("3: HOUR", x.count(1), 999);
  }

  private static void nothingComesWithAFault() {
    FasterForTheRich x = of("p0430;p1350;");
    x.sets(0, 0, 31);
    due("3: FAULT", town(x, "p0000;h155;c101;t01;l0;n05;l7;"), -2027);
    due("3: nobody came", x.count(0), 2);
    due("3: HOLDS stay", x.count(3), 81);
    due("3: HIDES stay", x.personOf(1, 3), 0);
    due("3: CANDLE stays", x.personOf(1, 4), 50);
    due("3: COUSIN stays", x.personOf(0, 7), -9);
    due("3: nobody is LIT", x.count(2), 0);
    due("3: HOUR stays", x.count(1), 0);
    due("3: PAGES stay", x.count(5), 0);
    due("3: a FAULT leaves what can be taken back", x.count(8), 1);
    due("3: it can", x.back(), 0);
    due("3: HOLDS as they were", x.personOf(0, 2), 30);
  }

  private static void whatIsLeftBehind() {
    FasterForTheRich x = of("p0430;p1350;");
    x.sets(0, 0, 31);
    x.row(7);
    x.image();
    due("3: a TOWN comes", town(x, "h005;"), 1);
    due("3: it leaves nothing to take back", x.back(), -3);
    due("3: the ROW stays", x.count(7), 1);
    due("3: the image stays", x.restore(), 0);
    due("3: as it was", x.personOf(0, 3), 0);
  }

  private static void nightInATown() {
    FasterForTheRich x = of(SIX);
    due("3: a NIGHT", town(x, "n05;"), 1);
    int[] holds = {30, 10, 20, 80, 30, 10};
    int[] candles = {45, 35, 94, 5, 0, 45};
    for (int i = 0; i < 6; i++) {
      due("3: HOLDS of " + i + " behind it", x.personOf(i, 2), holds[i]);
      due("3: CANDLE of " + i + " behind it", x.personOf(i, 4), candles[i]);
    }
    due("3: PAGES", x.count(5), 26);
    due("3: HOUR", x.count(1), 5);
    due("3: nobody is LIT", x.count(2), 0);
  }
}
