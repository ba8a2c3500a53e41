/**
 * People of kinds with what they hold and hide, and candles that burn faster for the rich.
 *
 * <p>The public methods refuse what the document refuses and then ask one of the classes inside: Town (all that there
 * is), Kinds (what differs from kind to kind), History (what can be taken back), Letters (a town told) and Row (candles
 * told).
 */
public final class FasterForTheRich {
  // What a refused call answers.
  private static final int NOBODY = -1;
  private static final int OTHER = -2;
  private static final int STATE = -3;
  private static final int BELOW = -4;
  private static final int ROOM = -6;

  private static final int BORROW_REFUSED = 1000000000;
  private static final long LONG_REFUSED = 4000000000000000000L;

  // What is told where there is no such one, and for a cousin that one had better not have.
  private static final int NOT_ANY = -9;
  private static final int TRUST_NONE = 9;

  private static final int MOST_PEOPLE = 6;
  private static final int MOST_KIND = 5;
  private static final int MOST_FIGURE = 9;
  private static final int MOST_TOLD = 99;
  private static final int MOST_COINS = 999;
  private static final int MOST_HIDES = 99;
  private static final int MOST_PAGES = 999;
  private static final int MOST_HOUR = 999;
  private static final int FULL_CANDLE = 99;
  private static final int FIRST_CANDLE = 50;
  private static final int MOST_HOURS = 99;
  private static final int MOST_NIGHT = 12;
  private static final int MOST_LETTER = 255;
  private static final int NO_COUSIN = -1;

  // Two longs have their common divisor in fewer than a hundred steps; the bound only shows that the loop ends.
  private static final int MOST_STEPS = 1000;

  private static final int BORROWED = 10;
  private static final int DRAFT_BURNS = 2;
  private static final int LOT_BELOW = 60;
  private static final int LOT_NIGHT = 8;

  private final Town now;
  // What would be is tried here, so that a call makes no new object.
  private final Town mind;
  private final Town image;
  private boolean imageTaken;
  private final History history;
  private final Letters letters;
  private final Row row;
  private final int[] refusals;

  public FasterForTheRich() {
    now = new Town();
    mind = new Town();
    image = new Town();
    imageTaken = false;
    history = new History();
    letters = new Letters();
    row = new Row();
    refusals = new int[7];
  }

  // ---- Towns told in letters ----

  public int feed(int letter) {
    int why = whyRange(letter, 0, MOST_LETTER);
    if (why == 0 && letters.isFull()) {
      why = ROOM;
    }
    return why != 0 ? refuse(why) : letters.append(letter);
  }

  public int town() {
    int told = letters.faultOfForm();
    if (told == 0) {
      mind.become(now);
      told = letters.tellTo(mind);
    }
    letters.forget();
    if (told > 0) {
      now.become(mind);
      history.forget();
    }
    return told;
  }

  // ---- People, and what changes them ----

  public int personOf(int person, int what) {
    int why = first(whyPerson(person), whyWhat(what, 10));
    if (why != 0) {
      return refuse(why);
    }
    switch (what) {
      case 0: return now.kind[person];
      case 1: return now.figure[person];
      case 2: return now.holds[person];
      case 3: return now.hides[person];
      case 4: return now.candle[person];
      case 5: return bit(now.lit[person]);
      case 6: return now.pages[person];
      case 7: return now.cousin[person] == NO_COUSIN ? NOT_ANY : now.cousin[person];
      case 8: return now.wealthOf(person);
      case 9: return now.burnsOf(person);
      default: return bit(now.isHonest(person));
    }
  }

  public int person(int kind, int figure, int holds) {
    int why = whyWhat(kind, MOST_KIND);
    if (why == 0 && (figure < 0 || holds < 0)) {
      why = BELOW;
    }
    if (why == 0 && (figure > MOST_FIGURE || holds > MOST_TOLD || now.isFull())) {
      why = ROOM;
    }
    if (why != 0) {
      return refuse(why);
    }
    history.forget();
    now.add(kind, figure, holds);
    return now.people - 1;
  }

  public int sets(int person, int what, int v) {
    int why = firstOf(whyPerson(person), whyWhat(what, 2), whyRange(v, 0, MOST_TOLD));
    if (why != 0) {
      return refuse(why);
    }
    history.keep(now);
    int was;
    switch (what) {
      case 0:
        was = now.holds[person];
        now.holds[person] = v;
        break;
      case 1:
        was = now.hides[person];
        now.hides[person] = v;
        break;
      default:
        was = now.candle[person];
        now.putCandle(person, v);
        break;
    }
    return was;
  }

  public int trusts(int one, int other) {
    int why = whyTwo(one, other);
    if (why != 0) {
      return refuse(why);
    }
    history.keep(now);
    now.turnCousin(one, other);
    return bit(now.cousin[one] == other);
  }

  public int lights(int person) {
    int why = whyPerson(person);
    if (why == 0 && now.candle[person] == 0) {
      why = STATE;
    }
    if (why != 0) {
      return refuse(why);
    }
    history.keep(now);
    now.lit[person] = !now.lit[person];
    return bit(now.lit[person]);
  }

  public int gives(int one, int other, int v) {
    int why = whyTwo(one, other);
    if (why == 0) {
      why = whyRange(v, 0, now.holds[one]);
    }
    if (why == 0 && now.holds[other] + v > MOST_COINS) {
      why = ROOM;
    }
    if (why != 0) {
      return refuse(why);
    }
    history.keep(now);
    now.holds[one] -= v;
    now.holds[other] += v;
    return now.holds[other];
  }

  public int hours(int n) {
    int why = first(whyRange(n, 1, MOST_HOURS), whyHour(n));
    if (why != 0) {
      return refuse(why);
    }
    history.keep(now);
    now.passHours(n);
    return now.howManyLit();
  }

  public int nights(int n) {
    int why = first(whyRange(n, 1, MOST_NIGHT), whyHour(n));
    if (why != 0) {
      return refuse(why);
    }
    history.keep(now);
    int before = now.allPages();
    now.passNight(n);
    return now.allPages() - before;
  }

  public int back() {
    if (history.size() == 0) {
      return refuse(STATE);
    }
    history.takeBack(now);
    return history.size();
  }

  // ---- Hours on, in mind ----

  public int behind(int person, int n, int what) {
    int why = firstOf(whyPerson(person), whyRange(n, 0, MOST_HOURS), whyWhat(what, 2));
    if (why != 0) {
      return refuse(why);
    }
    mind.become(now);
    mind.passHours(n);
    switch (what) {
      case 0: return mind.candle[person];
      case 1: return mind.pages[person];
      default: return bit(mind.lit[person]);
    }
  }

  public int all(int n, int what) {
    int why = first(whyRange(n, 0, MOST_HOURS), whyWhat(what, 1));
    if (why != 0) {
      return refuse(why);
    }
    mind.become(now);
    mind.passHours(n);
    return what == 0 ? mind.howManyLit() : mind.allPages();
  }

  public int lasts(int person) {
    int why = whyPerson(person);
    return why != 0 ? refuse(why) : now.lastsOf(person);
  }

  public int longest(int what) {
    int why = whyWhat(what, 3);
    if (why != 0) {
      return refuse(why);
    }
    int one = whoLastsLongest();
    switch (what) {
      case 0: return one;
      case 1: return one == NOT_ANY ? NOT_ANY : now.lastsOf(one);
      case 2: return hoursTillDark();
      default: return whoGutters();
    }
  }

  private int whoLastsLongest() {
    int found = NOT_ANY;
    int most = -1;
    for (int i = 0; i < now.people; i++) {
      int lasts = now.lastsOf(i);
      if (lasts > most) {
        most = lasts;
        found = i;
      }
    }
    return found;
  }

  private int hoursTillDark() {
    mind.become(now);
    for (int n = 0; n <= MOST_HOURS; n++) {
      if (mind.howManyLit() == 0) {
        return n;
      }
      mind.passHour();
    }
    return NOT_ANY;
  }

  private int whoGutters() {
    int found = NOT_ANY;
    int least = MOST_HOURS + 1;
    for (int i = 0; i < now.people; i++) {
      if (now.lit[i] && now.lastsOf(i) < least) {
        least = now.lastsOf(i);
        found = i;
      }
    }
    return found;
  }

  // ---- Coins given or had, in mind ----

  public int give(int one, int other, int h) {
    int why = first(whyTwo(one, other), whyRange(h, 1, MOST_HOURS));
    if (why != 0) {
      return refuse(why);
    }
    int holds = now.holds[one];
    for (int coins = 0; coins <= holds; coins++) {
      if (now.lastsHolding(one, holds - coins) >= h) {
        return coins;
      }
    }
    return NOT_ANY;
  }

  public int bestFriend(int person, int what) {
    int why = first(whyPerson(person), whyWhat(what, 1));
    if (why != 0) {
      return refuse(why);
    }
    int friend = NOT_ANY;
    int most = NOT_ANY;
    for (int i = 0; i < now.people; i++) {
      int together = i == person ? NOT_ANY : lastsTogether(person, i);
      if (together > most) {
        most = together;
        friend = i;
      }
    }
    return what == 0 ? friend : most;
  }

  // Both LASTS together when one has given another all he HOLDS.
  private int lastsTogether(int one, int other) {
    return now.lastsHolding(one, 0) + now.lastsWithMore(other, now.holds[one]);
  }

  public int both(int one, int other, int what) {
    int why = first(whyTwo(one, other), whyWhat(what, 1));
    if (why != 0) {
      return refuse(why);
    }
    int holds = now.holds[one];
    int fewest = 0;
    int greatest = -1;
    for (int coins = 0; coins <= holds; coins++) {
      int own = now.lastsHolding(one, holds - coins);
      int his = now.lastsWithMore(other, coins);
      if (Math.min(own, his) > greatest) {
        greatest = Math.min(own, his);
        fewest = coins;
      }
    }
    return what == 0 ? fewest : greatest;
  }

  public int borrow(int person) {
    int why = whyPerson(person);
    if (why != 0) {
      return BORROW_REFUSED - refuse(why);
    }
    return now.lastsOf(person) - now.lastsWithMore(person, BORROWED);
  }

  // ---- A night in mind ----

  public int night(int person, int n, int what) {
    int why = firstOf(whyPerson(person), whyRange(n, 1, MOST_NIGHT), whyWhat(what, 2));
    if (why != 0) {
      return refuse(why);
    }
    mind.become(now);
    mind.passNight(n);
    switch (what) {
      case 0: return mind.holds[person];
      case 1: return mind.candle[person];
      default: return mind.pages[person] - now.pages[person];
    }
  }

  public int nightOfAll(int n, int what) {
    int why = first(whyRange(n, 1, MOST_NIGHT), whyWhat(what, 1));
    if (why != 0) {
      return refuse(why);
    }
    mind.become(now);
    mind.passNight(n);
    return what == 0 ? mind.allPages() - now.allPages() : now.allHolds() - mind.allHolds();
  }

  public int trust(int person, int n) {
    int why = first(whyPerson(person), whyRange(n, 1, MOST_NIGHT));
    if (why != 0) {
      return refuse(why);
    }
    if (now.people < 2) {
      return NOT_ANY;
    }
    int best = TRUST_NONE;
    int most = pagesTrusting(person, NO_COUSIN, n);
    for (int i = 0; i < now.people; i++) {
      int read = i == person ? -1 : pagesTrusting(person, i, n);
      if (read > most) {
        most = read;
        best = i;
      }
    }
    return best;
  }

  private int pagesTrusting(int person, int cousin, int n) {
    nightTrusting(person, cousin, n);
    return mind.pages[person] - now.pages[person];
  }

  private void nightTrusting(int person, int cousin, int n) {
    mind.become(now);
    mind.cousin[person] = cousin;
    mind.passNight(n);
  }

  public int safe(int person, int n) {
    int why = first(whyPerson(person), whyRange(n, 1, MOST_NIGHT));
    if (why != 0) {
      return refuse(why);
    }
    int bits = 0;
    for (int i = 0; i < now.people; i++) {
      if (i != person && losesNothing(person, i, n)) {
        bits |= 1 << i;
      }
    }
    return bits;
  }

  private boolean losesNothing(int person, int cousin, int n) {
    nightTrusting(person, cousin, n);
    return mind.holds[person] >= now.holds[person];
  }

  // ---- Light shared, taxed, hidden ----

  public int relay(int what) {
    int why = whyWhat(what, 1);
    if (why != 0) {
      return refuse(why);
    }
    int together = 0;
    int most = 0;
    for (int i = 0; i < now.people; i++) {
      together += now.lastsOf(i);
      most = Math.max(most, now.lastsOf(i));
    }
    return what == 0 ? together : Math.min(together / 2, together - most);
  }

  public int tax(int t, int what) {
    int why = first(whyRange(t, 0, 9), whyWhat(what, 1));
    if (why != 0) {
      return refuse(why);
    }
    int together = 0;
    int payer = NOT_ANY;
    int most = -1;
    for (int i = 0; i < now.people; i++) {
      int pays = t * now.burnsOf(i);
      together += pays;
      if (pays > most) {
        most = pays;
        payer = i;
      }
    }
    return what == 0 ? together : payer;
  }

  public int hide(int person) {
    int why = whyPerson(person);
    if (why != 0) {
      return refuse(why);
    }
    int kind = now.kind[person];
    int figure = now.figure[person];
    int holds = now.holds[person];
    int hides = now.hides[person];
    int fewest = 0;
    int least = now.wealthOf(person);
    for (int coins = 1; coins <= holds && hides + coins <= MOST_HIDES; coins++) {
      int wealth = Kinds.wealth(kind, figure, holds - coins, hides + coins);
      if (wealth < least) {
        least = wealth;
        fewest = coins;
      }
    }
    return fewest;
  }

  public int shares(int what) {
    int why = whyWhat(what, 1);
    if (why != 0) {
      return refuse(why);
    }
    if (now.people == 0) {
      return 0;
    }
    return what == 0 ? now.allCandles() / now.people : now.allCandles() % now.people;
  }

  // ---- What the row tells ----

  public int whatHeHolds(int person, int what) {
    int why = first(whyPerson(person), whyWhat(what, 3));
    if (why != 0) {
      return refuse(why);
    }
    switch (what) {
      case 0: return howManyHoldsFit(person);
      case 1: return leastHoldsFit(person);
      case 2: return kindsFit(person);
      default: return figuresFit(person);
    }
  }

  private boolean holdsFit(int person, int holds) {
    return row.fits(now.candle[person], now.burnsHolding(person, holds));
  }

  private int howManyHoldsFit(int person) {
    int count = 0;
    for (int holds = 0; holds <= MOST_TOLD; holds++) {
      if (holdsFit(person, holds)) {
        count++;
      }
    }
    return count;
  }

  private int leastHoldsFit(int person) {
    for (int holds = 0; holds <= MOST_TOLD; holds++) {
      if (holdsFit(person, holds)) {
        return holds;
      }
    }
    return NOT_ANY;
  }

  private int kindsFit(int person) {
    int bits = 0;
    for (int kind = 0; kind <= MOST_KIND; kind++) {
      int wealth = Kinds.wealth(kind, now.figure[person], now.holds[person], now.hides[person]);
      if (row.fits(now.candle[person], Kinds.burns(kind, wealth))) {
        bits |= 1 << kind;
      }
    }
    return bits;
  }

  private int figuresFit(int person) {
    int bits = 0;
    int kind = now.kind[person];
    for (int figure = 0; figure <= MOST_FIGURE; figure++) {
      int wealth = Kinds.wealth(kind, figure, now.holds[person], now.hides[person]);
      if (row.fits(now.candle[person], Kinds.burns(kind, wealth))) {
        bits |= 1 << figure;
      }
    }
    return bits;
  }

  public int whoGave(int person) {
    int why = whyPerson(person);
    if (why != 0) {
      return refuse(why);
    }
    int bits = 0;
    for (int i = 0; i < now.people; i++) {
      if (i != person && holdsFit(person, now.holdsWithMore(person, now.holds[i]))) {
        bits |= 1 << i;
      }
    }
    return bits;
  }

  // ---- Two who halve a coin, and drafts ----

  public int halve(int one, int other) {
    int why = whyTwo(one, other);
    if (why != 0) {
      return refuse(why);
    }
    for (int own = 0; own <= 1; own++) {
      for (int his = 0; his <= 1; his++) {
        if (keepsTo(one, other, own, his) && keepsTo(other, one, his, own)) {
          return 10 * own + his;
        }
      }
    }
    return NOT_ANY;
  }

  // Whether one has no longer light by the other choice, while the other one stays with his.
  private boolean keepsTo(int one, int other, int own, int his) {
    return lastsHalving(one, other, own, his) >= lastsHalving(one, other, 1 - own, his);
  }

  private int lastsHalving(int one, int other, int own, int his) {
    int gives = Math.min(own, now.holds[one]);
    int gets = Math.min(his, now.holds[other]);
    // What he gives and what he gets go at once: at the most that one can hold they are weighed together.
    return now.lastsWithMore(one, gets - gives);
  }

  public long draft(int person, int n, int t, int part) {
    int why = whyPerson(person);
    if (why == 0 && (n < 0 || t < 2)) {
      why = BELOW;
    }
    if (why == 0 && (n > 8 || t > 20)) {
      why = ROOM;
    }
    why = first(why, whyWhat(part, 1));
    if (why != 0) {
      return LONG_REFUSED - refuse(why);
    }
    return partOf(waysWithLight(person, n, t), power(t, n), part);
  }

  // Of t to the power n ways equally likely, those in which light is left: a way has 1 draft or t - 1 calms an hour.
  private long waysWithLight(int person, int n, int t) {
    int left = now.candle[person] - n * now.burnsOf(person);
    long ways = 0;
    long choices = 1;
    for (int drafts = 0; drafts <= n; drafts++) {
      if (left - DRAFT_BURNS * drafts > 0) {
        ways += choices * power(t - 1, n - drafts);
      }
      choices = choices * (n - drafts) / (drafts + 1);
    }
    return ways;
  }

  private static long power(int base, int times) {
    long product = 1;
    for (int i = 0; i < times; i++) {
      product *= base;
    }
    return product;
  }

  // Part 0 or 1 of a fraction in lowest terms.
  private static long partOf(long above, long below, int part) {
    long one = above;
    long other = below;
    for (int step = 0; step < MOST_STEPS && other != 0; step++) {
      long rest = one % other;
      one = other;
      other = rest;
    }
    if (one == 0) {
      return part;
    }
    return part == 0 ? above / one : below / one;
  }

  // ---- Who is rich ----

  public int richest(int what) {
    int why = whyWhat(what, 1);
    if (why != 0) {
      return refuse(why);
    }
    int found = NOT_ANY;
    for (int i = 0; i < now.people; i++) {
      if (found == NOT_ANY || isFurther(i, found, what)) {
        found = i;
      }
    }
    return found;
  }

  // Whether one is richer (what 0) or poorer (what 1) than another.
  private boolean isFurther(int one, int other, int what) {
    int more = now.wealthOf(one) - now.wealthOf(other);
    return what == 0 ? more > 0 : more < 0;
  }

  public long mean(int part) {
    int why = whyWhat(part, 1);
    if (why != 0) {
      return LONG_REFUSED - refuse(why);
    }
    long together = 0;
    for (int i = 0; i < now.people; i++) {
      together += now.wealthOf(i);
    }
    return partOf(together, Math.max(1, now.people), part);
  }

  public int apart() {
    if (now.people == 0) {
      return 0;
    }
    int most = now.wealthOf(0);
    int least = most;
    for (int i = 1; i < now.people; i++) {
      most = Math.max(most, now.wealthOf(i));
      least = Math.min(least, now.wealthOf(i));
    }
    return most - least;
  }

  public int above(int v) {
    int why = whyRange(v, 0, MOST_COINS);
    if (why != 0) {
      return refuse(why);
    }
    int count = 0;
    for (int i = 0; i < now.people; i++) {
      if (now.wealthOf(i) >= v) {
        count++;
      }
    }
    return count;
  }

  // ---- Cousins ----

  public int ring(int person) {
    int why = whyPerson(person);
    if (why != 0) {
      return refuse(why);
    }
    int come = 0;
    int count = 0;
    int at = person;
    for (int step = 0; step < MOST_PEOPLE && now.has(at) && (come >> at & 1) == 0; step++) {
      come |= 1 << at;
      count++;
      at = now.cousin[at];
    }
    return count;
  }

  public int trusted(int person) {
    int why = whyPerson(person);
    if (why != 0) {
      return refuse(why);
    }
    int count = 0;
    for (int i = 0; i < now.people; i++) {
      if (now.cousin[i] == person) {
        count++;
      }
    }
    return count;
  }

  // ---- Candles ----

  public int unlit() {
    int bits = 0;
    for (int i = 0; i < now.people; i++) {
      if (now.candle[i] > 0 && !now.lit[i]) {
        bits |= 1 << i;
      }
    }
    return bits;
  }

  public int gap(int n) {
    int why = whyRange(n, 1, MOST_NIGHT);
    if (why != 0) {
      return refuse(why);
    }
    int found = NOT_ANY;
    int most = -1;
    for (int i = 0; i < now.people; i++) {
      int more = pagesByCandle(i, FULL_CANDLE, n) - pagesByCandle(i, now.candle[i], n);
      if (more > most) {
        most = more;
        found = i;
      }
    }
    return found;
  }

  private int pagesByCandle(int person, int candle, int n) {
    mind.become(now);
    mind.candle[person] = candle;
    mind.passNight(n);
    return mind.pages[person] - now.pages[person];
  }

  public int same() {
    int count = 0;
    for (int i = 0; i < now.people; i++) {
      for (int j = i + 1; j < now.people; j++) {
        if (now.lastsOf(i) == now.lastsOf(j)) {
          count++;
        }
      }
    }
    return count;
  }

  // ---- The row ----

  public int row(int v) {
    int why = whyRange(v, 0, MOST_TOLD);
    if (why == 0 && row.isFull()) {
      why = ROOM;
    }
    return why != 0 ? refuse(why) : row.append(v);
  }

  public int judge() {
    int place = row.firstUnlike(now.candle, now.people);
    row.forget();
    return place;
  }

  public int clear() {
    int had = row.size();
    row.forget();
    return had;
  }

  // ---- Lots ----

  public int lots(int n, int z, int what) {
    int why = first(whyRange(n, 1, 20), whyWhat(what, 1));
    if (why != 0) {
      return refuse(why);
    }
    int seed = z;
    int pages = 0;
    int dark = 0;
    for (int night = 0; night < n; night++) {
      mind.become(now);
      for (int i = 0; i < mind.people; i++) {
        seed = seed * 1103515245 + 12345;
        mind.holds[i] = (seed & 0x7fffffff) / 65536 % LOT_BELOW;
      }
      mind.passNight(LOT_NIGHT);
      pages += mind.allPages() - now.allPages();
      dark += mind.howManyDark();
    }
    return what == 0 ? pages : dark;
  }

  // ---- The image, and what is counted ----

  public int image() {
    image.become(now);
    imageTaken = true;
    return now.hour;
  }

  public int restore() {
    if (!imageTaken) {
      return refuse(STATE);
    }
    history.forget();
    now.become(image);
    return now.hour;
  }

  public int count(int what) {
    if (what >= 11 && what <= 16) {
      return refusals[what - 10];
    }
    switch (what) {
      case 0: return now.people;
      case 1: return now.hour;
      case 2: return now.litOnes();
      case 3: return now.allHolds();
      case 4: return now.allCandles();
      case 5: return now.allPages();
      case 6: return letters.size();
      case 7: return row.size();
      case 8: return history.size();
      default: return NOT_ANY;
    }
  }

  // ---- Refusals: each why is 0, or the number that the call answers ----

  private int refuse(int why) {
    int place = -why;
    if (place > 0 && place < refusals.length) {
      refusals[place]++;
    }
    return why;
  }

  private int whyPerson(int person) {
    return now.has(person) ? 0 : NOBODY;
  }

  private int whyTwo(int one, int other) {
    return now.has(one) && now.has(other) && one != other ? 0 : NOBODY;
  }

  private static int whyWhat(int what, int most) {
    return what < 0 || what > most ? OTHER : 0;
  }

  private static int whyRange(int v, int least, int most) {
    if (v < least) {
      return BELOW;
    }
    return v > most ? ROOM : 0;
  }

  private int whyHour(int n) {
    return now.hasTimeFor(n) ? 0 : ROOM;
  }

  private static int first(int one, int two) {
    return one != 0 ? one : two;
  }

  private static int firstOf(int one, int two, int three) {
    return first(one, first(two, three));
  }

  private static int bit(boolean is) {
    return is ? 1 : 0;
  }

  /** What differs from kind to kind; what a case does not name is as of the kind above it. */
  static final class Kinds {
    private static final int LORD = 1;
    private static final int DEBTOR = 2;
    private static final int MISER = 3;
    private static final int HEIR = 4;
    private static final int PAUPER = 5;

    private Kinds() {}

    static int wealth(int kind, int figure, int holds, int hides) {
      int owners = holds + hides;
      switch (kind) {
        case LORD: return owners + 10;
        case DEBTOR: return owners / 2 > figure ? owners / 2 - figure : 0;
        case MISER: return holds + 2 * hides;
        case HEIR: return owners + 10 - holds / 2;
        case PAUPER: return figure;
        default: return owners;
      }
    }

    static int burns(int kind, int wealth) {
      switch (kind) {
        case LORD:
        case HEIR: return 2 + wealth / 10;
        case MISER: return 1 + wealth / 5;
        case PAUPER: return 1;
        default: return 1 + wealth / 10;
      }
    }

    static boolean honest(int kind, int figure) {
      switch (kind) {
        case LORD:
        case HEIR:
        case PAUPER: return true;
        case MISER: return false;
        default: return figure >= 4;
      }
    }
  }

  /** The people and the hour: all that an image keeps and that can be taken back. */
  static final class Town {
    final int[] kind = new int[MOST_PEOPLE];
    final int[] figure = new int[MOST_PEOPLE];
    final int[] holds = new int[MOST_PEOPLE];
    final int[] hides = new int[MOST_PEOPLE];
    final int[] candle = new int[MOST_PEOPLE];
    final boolean[] lit = new boolean[MOST_PEOPLE];
    final int[] pages = new int[MOST_PEOPLE];
    final int[] cousin = new int[MOST_PEOPLE];
    // What each gave at dusk; nothing of it is left behind dawn.
    private final int[] gave = new int[MOST_PEOPLE];
    int people;
    int hour;

    Town() {
      people = 0;
      hour = 0;
    }

    void become(Town other) {
      for (int i = 0; i < other.people; i++) {
        kind[i] = other.kind[i];
        figure[i] = other.figure[i];
        holds[i] = other.holds[i];
        hides[i] = other.hides[i];
        candle[i] = other.candle[i];
        lit[i] = other.lit[i];
        pages[i] = other.pages[i];
        cousin[i] = other.cousin[i];
      }
      people = other.people;
      hour = other.hour;
    }

    boolean has(int person) {
      return person >= 0 && person < people;
    }

    boolean isFull() {
      return people >= MOST_PEOPLE;
    }

    // Told so that no n overflows.
    boolean hasTimeFor(int n) {
      return n <= MOST_HOUR - hour;
    }

    void add(int itsKind, int itsFigure, int itsHolds) {
      if (isFull()) {
        return;
      }
      kind[people] = itsKind;
      figure[people] = itsFigure;
      holds[people] = itsHolds;
      hides[people] = 0;
      candle[people] = FIRST_CANDLE;
      lit[people] = false;
      pages[people] = 0;
      cousin[people] = NO_COUSIN;
      people++;
    }

    void putCandle(int person, int v) {
      candle[person] = v;
      if (v == 0) {
        lit[person] = false;
      }
    }

    void turnCousin(int one, int other) {
      cousin[one] = cousin[one] == other ? NO_COUSIN : other;
    }

    // What one would hold with coins more, in mind as at dusk and dawn: what is above the most is lost.
    int holdsWithMore(int i, int coins) {
      return Math.min(MOST_COINS, holds[i] + coins);
    }

    int wealthOf(int i) {
      return Kinds.wealth(kind[i], figure[i], holds[i], hides[i]);
    }

    int burnsOf(int i) {
      return burnsHolding(i, holds[i]);
    }

    // What he would burn in an hour, were it that which he holds.
    int burnsHolding(int i, int coins) {
      return Kinds.burns(kind[i], Kinds.wealth(kind[i], figure[i], coins, hides[i]));
    }

    int lastsOf(int i) {
      return lastsHolding(i, holds[i]);
    }

    int lastsWithMore(int i, int coins) {
      return lastsHolding(i, holdsWithMore(i, coins));
    }

    int lastsHolding(int i, int coins) {
      int burns = burnsHolding(i, coins);
      if (burns < 1) {
        return MOST_HOURS;
      }
      return Math.min(MOST_HOURS, (candle[i] + burns - 1) / burns);
    }

    boolean isHonest(int i) {
      return Kinds.honest(kind[i], figure[i]);
    }

    void passHour() {
      hour++;
      for (int i = 0; i < people; i++) {
        if (lit[i]) {
          pages[i] = Math.min(MOST_PAGES, pages[i] + 1);
          putCandle(i, Math.max(0, candle[i] - burnsHolding(i, holds[i])));
        }
      }
    }

    void passHours(int n) {
      for (int k = 0; k < n; k++) {
        passHour();
      }
    }

    void passNight(int n) {
      dusk();
      for (int k = 0; k < n; k++) {
        passHour();
      }
      dawn();
    }

    private void dusk() {
      for (int i = 0; i < people; i++) {
        int to = cousin[i];
        if (has(to)) {
          gave[i] = holds[i];
          holds[i] = 0;
          holds[to] = holdsWithMore(to, gave[i]);
        }
        lit[i] = candle[i] > 0;
      }
    }

    private void dawn() {
      for (int i = people - 1; i >= 0; i--) {
        int from = cousin[i];
        if (has(from)) {
          int due = isHonest(from) ? gave[i] : gave[i] / 2;
          int gets = Math.min(due, holds[from]);
          holds[from] -= gets;
          holds[i] = holdsWithMore(i, gets);
        }
        lit[i] = false;
      }
    }

    int howManyLit() {
      return Integer.bitCount(litOnes());
    }

    int litOnes() {
      int bits = 0;
      for (int i = 0; i < people; i++) {
        if (lit[i]) {
          bits |= 1 << i;
        }
      }
      return bits;
    }

    int howManyDark() {
      int count = 0;
      for (int i = 0; i < people; i++) {
        if (candle[i] == 0) {
          count++;
        }
      }
      return count;
    }

    int allHolds() {
      return sumOf(holds);
    }

    int allCandles() {
      return sumOf(candle);
    }

    int allPages() {
      return sumOf(pages);
    }

    private int sumOf(int[] numbers) {
      int sum = 0;
      for (int i = 0; i < people && i < numbers.length; i++) {
        sum += numbers[i];
      }
      return sum;
    }
  }

  /** The latest towns as they were before a change, the oldest of which make room for new ones. */
  static final class History {
    private static final int MOST = 8;
    private final Town[] kept;
    private int oldest;
    private int size;

    History() {
      kept = new Town[MOST];
      for (int i = 0; i < MOST; i++) {
        kept[i] = new Town();
      }
      oldest = 0;
      size = 0;
    }

    int size() {
      return size;
    }

    void forget() {
      size = 0;
    }

    void keep(Town town) {
      kept[(oldest + size) % MOST].become(town);
      if (size < MOST) {
        size++;
      } else {
        oldest = (oldest + 1) % MOST;
      }
    }

    void takeBack(Town town) {
      if (size > 0) {
        size--;
        town.become(kept[(oldest + size) % MOST]);
      }
    }
  }

  /** Numbers that come one by one, so many at the most. */
  abstract static class Numbers {
    final int[] numbers;
    int size;

    Numbers(int most) {
      numbers = new int[Math.max(0, most)];
      size = 0;
    }

    int size() {
      return size;
    }

    boolean isFull() {
      return size >= numbers.length;
    }

    void forget() {
      size = 0;
    }

    int append(int v) {
      if (!isFull()) {
        numbers[size] = v;
        size++;
      }
      return size;
    }
  }

  /** Letters that tell a town. */
  static final class Letters extends Numbers {
    private static final int MOST = 96;
    private static final int FORM = -1000;
    private static final int SENSE = -2000;
    // What may come next: a statement's first letter, or, of digits still due, so many; at 0 of these ";".
    private static final int START = -1;
    private static final int NO_WAY = -2;

    Letters() {
      super(MOST);
    }

    // A fault of kind 1, or 0.
    int faultOfForm() {
      int due = START;
      for (int at = 0; at < size; at++) {
        due = dueBehind(due, numbers[at]);
        if (due == NO_WAY) {
          return FORM - at;
        }
      }
      return size == 0 || due != START ? FORM - size : 0;
    }

    private static int dueBehind(int due, int sign) {
      if (due == START) {
        return digitsOf(sign);
      }
      if (due == 0) {
        return sign == ';' ? START : NO_WAY;
      }
      return sign >= '0' && sign <= '9' ? due - 1 : NO_WAY;
    }

    private static int digitsOf(int sign) {
      switch (sign) {
        case 'p': return 4;
        case 'h':
        case 'c': return 3;
        case 't':
        case 'n': return 2;
        case 'l': return 1;
        default: return NO_WAY;
      }
    }

    // How many statements have come to the town, or a fault of kind 2; asked where there is none of kind 1.
    int tellTo(Town town) {
      int statements = 0;
      for (int at = 0; at < size; at++) {
        if (at == 0 || numbers[at - 1] == ';') {
          if (!comes(town, at)) {
            return SENSE - at;
          }
          statements++;
        }
      }
      return statements;
    }

    // Whether the statement at a place is as it must be: then it has come to the town.
    private boolean comes(Town town, int at) {
      int one = digit(at + 1);
      switch (at >= 0 && at < size ? numbers[at] : 0) {
        case 'p': return comesPerson(town, one, digit(at + 2), twoDigits(at + 3));
        case 'h': return comesHides(town, one, twoDigits(at + 2));
        case 'c': return comesCandle(town, one, twoDigits(at + 2));
        case 't': return comesCousin(town, one, digit(at + 2));
        case 'l': return comesLight(town, one);
        default: break;
      }
      int hours = twoDigits(at + 1);
      if (hours < 1 || hours > MOST_NIGHT || !town.hasTimeFor(hours)) {
        return false;
      }
      town.passNight(hours);
      return true;
    }

    private static boolean comesPerson(Town town, int kind, int figure, int holds) {
      if (kind > MOST_KIND || town.isFull()) {
        return false;
      }
      town.add(kind, figure, holds);
      return true;
    }

    private static boolean comesHides(Town town, int one, int v) {
      if (!town.has(one)) {
        return false;
      }
      town.hides[one] = v;
      return true;
    }

    private static boolean comesCandle(Town town, int one, int v) {
      if (!town.has(one)) {
        return false;
      }
      town.putCandle(one, v);
      return true;
    }

    private static boolean comesCousin(Town town, int one, int other) {
      if (!town.has(one) || !town.has(other) || one == other) {
        return false;
      }
      town.turnCousin(one, other);
      return true;
    }

    private static boolean comesLight(Town town, int one) {
      if (!town.has(one) || town.candle[one] == 0) {
        return false;
      }
      town.lit[one] = !town.lit[one];
      return true;
    }

    private int digit(int at) {
      return at >= 0 && at < size ? numbers[at] - '0' : 0;
    }

    private int twoDigits(int at) {
      return 10 * digit(at) + digit(at + 1);
    }
  }

  /** Numbers that tell candles, by hours or by people. */
  static final class Row extends Numbers {
    private static final int MOST = 12;

    Row() {
      super(MOST);
    }

    // Whether it tells a lit candle behind 0, 1, .. hours.
    boolean fits(int candle, int burns) {
      for (int i = 0; i < size; i++) {
        if (numbers[i] != Math.max(0, candle - i * burns)) {
          return false;
        }
      }
      return true;
    }

    // The first place whose number is not that of the others (there are so many), or NOT_ANY.
    int firstUnlike(int[] others, int many) {
      for (int i = 0; i < size; i++) {
        if (i >= many || i >= others.length || numbers[i] != others[i]) {
          return i;
        }
      }
      return NOT_ANY;
    }
  }
}
