/** Promises 1, 4, 5, 6 and 48: a new object, people, what can be set of them, what is counted. */
public final class PeopleTest extends Due {
  public static void main(String[] args) {
    newObject();
    kinds();
    onePerson();
    refusedPeople();
    sets();
    refusedSets();
    counts();
    end();
  }

  private static void newObject() {
    FasterForTheRich x = new FasterForTheRich();
    int[] counted = {0, 0, 0, 0, 0, 0, 0, 0, 0, -9, -9, 0, 0, 0, 0, 0, 0, -9};
    for (int what = 0; what < counted.length; what++) due("1: new: count(" + what + ")", x.count(what), counted[what]);
    due("1: count(-1)", x.count(-1), -9);
    due("1: count(least)", x.count(Integer.MIN_VALUE), -9);
    due("1: count(most)", x.count(Integer.MAX_VALUE), -9);
    due("1: nobody is 0", x.personOf(0, 0), -1);
    due("1: nothing to take back", x.back(), -3);
    due("1: no image", x.restore(), -3);
  }

  private static void kinds() {
    FasterForTheRich x = of(SIX);
    int[] wealth = {30, 65, 18, 60, 25, 7};
    int[] burns = {4, 8, 2, 13, 4, 1};
    int[] honest = {1, 1, 0, 0, 1, 1};
    int[] figures = {4, 3, 2, 6, 5, 7};
    int[] holds = {30, 50, 40, 20, 30, 10};
    int[] hides = {0, 5, 0, 20, 0, 0};
    int[] candles = {50, 50, 99, 50, 1, 50};
    int[] lit = {1, 0, 0, 0, 1, 0};
    int[] cousins = {1, 3, 3, 5, -9, -9};
    for (int i = 0; i < 6; i++) {
      due("4: KIND of " + i, x.personOf(i, 0), i);
      due("4: FIGURE of " + i, x.personOf(i, 1), figures[i]);
      due("4: HOLDS of " + i, x.personOf(i, 2), holds[i]);
      due("4: HIDES of " + i, x.personOf(i, 3), hides[i]);
      due("4: CANDLE of " + i, x.personOf(i, 4), candles[i]);
      due("4: LIT of " + i, x.personOf(i, 5), lit[i]);
      due("4: PAGES of " + i, x.personOf(i, 6), 0);
      due("4: COUSIN of " + i, x.personOf(i, 7), cousins[i]);
      due("4: WEALTH of " + i, x.personOf(i, 8), wealth[i]);
      due("4: BURNS of " + i, x.personOf(i, 9), burns[i]);
      due("4: HONEST of " + i, x.personOf(i, 10), honest[i]);
    }
  }

  private static void onePerson() {
    FasterForTheRich x = new FasterForTheRich();
    due("5: the first", x.person(0, 4, 9), 0);
    due("5: the second", x.person(2, 4, 7), 1);
    due("4: an OWNER of 9 burns 1", x.personOf(0, 9), 1);
    due("4: a DEBTOR has 0 at least", x.personOf(1, 8), 0);
    due("4: a DEBTOR of FIGURE 4 is HONEST", x.personOf(1, 10), 1);
    due("5: CANDLE at first", x.personOf(1, 4), 50);
    due("5: a LORD", x.person(1, 0, 10), 2);
    due("4: a LORD of 20 burns 4", x.personOf(2, 9), 4);
    due("5: an HEIR", x.person(4, 0, 15), 3);
    due("4: half, cut, of 15 less", x.personOf(3, 8), 18);
    due("4: an HEIR burns by his own WEALTH", x.personOf(3, 9), 3);
    due("5: a MISER", x.person(3, 9, 4), 4);
    due("4: a MISER of 4 burns 1", x.personOf(4, 9), 1);
    due("4: a MISER of FIGURE 9 is not HONEST", x.personOf(4, 10), 0);
    x.sets(1, 0, 20);
    x.sets(1, 1, 1);
    due("4: half, cut, of 21 less 4", x.personOf(1, 8), 6);
    x.sets(1, 0, 8);
    due("4: half, cut, of 9 less 4", x.personOf(1, 8), 0);
    x.sets(1, 0, 11);
    due("4: half of 12 less 4", x.personOf(1, 8), 2);
    due("5: an OWNER of FIGURE 3", x.person(0, 3, 99), 5);
    due("4: he is not HONEST", x.personOf(5, 10), 0);
    due("4: nobody", x.personOf(6, 0), -1);
    due("4: nobody below", x.personOf(-1, 0), -1);
    due("4: what below", x.personOf(0, -1), -2);
    due("4: what above", x.personOf(0, 11), -2);
    due("4: nobody ahead of what", x.personOf(6, 11), -1);
  }

  private static void refusedPeople() {
    FasterForTheRich x = new FasterForTheRich();
    due("5: KIND below", x.person(-1, 0, 0), -2);
    due("5: KIND above", x.person(6, 0, 0), -2);
    due("5: FIGURE below", x.person(0, -1, 0), -4);
    due("5: HOLDS below", x.person(0, 0, -1), -4);
    due("5: FIGURE above", x.person(0, 10, 0), -6);
    due("5: HOLDS above", x.person(0, 0, 100), -6);
    due("5: KIND first", x.person(6, -1, 100), -2);
    due("5: below ahead of above", x.person(0, 10, -1), -4);
    due("5: below ahead of above, the other", x.person(0, -1, 100), -4);
    due("5: nobody came", x.count(0), 0);
    for (int i = 0; i < 6; i++) due("5: number " + i, x.person(5 - i, 9, 99), i);
    due("5: no room", x.person(0, 0, 0), -6);
    due("5: KIND ahead of room", x.person(7, 0, 0), -2);
    due("5: below ahead of room", x.person(0, 0, -1), -4);
    due("5: six there are", x.count(0), 6);
    due("48: -2", x.count(12), 4);
    due("48: -4", x.count(14), 5);
    due("48: -6", x.count(16), 3);
  }

  private static void sets() {
    FasterForTheRich x = of("p0430;l0;");
    due("6: HOLDS were", x.sets(0, 0, 99), 30);
    due("6: HOLDS are", x.personOf(0, 2), 99);
    due("6: HIDES were", x.sets(0, 1, 7), 0);
    due("6: HIDES are", x.personOf(0, 3), 7);
    due("6: CANDLE was", x.sets(0, 2, 1), 50);
    due("6: CANDLE is", x.personOf(0, 4), 1);
    due("6: still LIT", x.personOf(0, 5), 1);
    due("6: CANDLE 0", x.sets(0, 2, 0), 1);
    due("6: LIT no more", x.personOf(0, 5), 0);
    due("6: CANDLE again", x.sets(0, 2, 99), 0);
    due("6: it stays unlit", x.personOf(0, 5), 0);
    due("6: HOLDS none", x.sets(0, 0, 0), 99);
    due("6: others stay", x.personOf(0, 3), 7);
    x.lights(0);
    x.sets(0, 0, 0);
    due("6: HOLDS 0 puts out no candle", x.personOf(0, 5), 1);
  }

  private static void refusedSets() {
    FasterForTheRich x = of("p0430;");
    due("6: nobody", x.sets(1, 0, 5), -1);
    due("6: what above", x.sets(0, 3, 5), -2);
    due("6: what below", x.sets(0, -1, 5), -2);
    due("6: below", x.sets(0, 0, -1), -4);
    due("6: above", x.sets(0, 0, 100), -6);
    due("6: above HIDES", x.sets(0, 1, 100), -6);
    due("6: above CANDLE", x.sets(0, 2, 100), -6);
    due("6: nobody first", x.sets(-1, 3, -1), -1);
    due("6: what second", x.sets(0, 3, -1), -2);
    due("6: nothing changed", x.personOf(0, 2), 30);
    due("6: nothing to take back", x.count(8), 0);
  }

  private static void counts() {
    FasterForTheRich x = of(SIX);
    due("48: PEOPLE", x.count(0), 6);
    due("48: HOUR", x.count(1), 0);
    due("48: LIT", x.count(2), 17);
    due("48: HOLDS", x.count(3), 180);
    due("48: CANDLES", x.count(4), 300);
    due("48: PAGES", x.count(5), 0);
    x.hours(2);
    due("48: HOUR then", x.count(1), 2);
    due("48: LIT then", x.count(2), 1);
    due("48: CANDLES then", x.count(4), 291);
    due("48: PAGES then", x.count(5), 3);
    x.feed(112);
    x.feed(59);
    x.row(5);
    x.row(6);
    x.row(7);
    due("48: letters", x.count(6), 2);
    due("48: in the ROW", x.count(7), 3);
    due("48: to be taken back", x.count(8), 1);
    x.lasts(6);
    x.borrow(6);
    x.draft(6, 0, 2, 0);
    x.mean(2);
    x.restore();
    x.feed(-1);
    x.feed(256);
    x.feed(256);
    int[] refusals = {3, 1, 1, 1, 0, 2};
    for (int i = 0; i < 6; i++) due("48: REFUSALS -" + (i + 1), x.count(11 + i), refusals[i]);
    due("48: none for 9", x.count(9), -9);
    due("48: none for 10", x.count(10), -9);
    due("48: none for 17", x.count(17), -9);
    due("48: no refusal of count", x.count(12), 1);
  }
}
