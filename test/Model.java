import java.math.BigInteger;
import java.util.ArrayDeque;
import java.util.ArrayList;
import java.util.Deque;
import java.util.List;
import java.util.function.IntPredicate;
import java.util.function.IntUnaryOperator;
import java.util.regex.Matcher;
import java.util.regex.Pattern;

/**
 * The document once more, for the random runs: kinds as classes under classes, hours that are lived through one by one
 * where the program reckons, and refusals that are thrown. It takes nothing from the program.
 */
public final class Model {
  static final class Refused extends RuntimeException {
    final int why;

    Refused(int why) {
      super(null, null, false, false);
      this.why = why;
    }
  }

  static class Owner {
    int number;
    int figure;
    int holds;
    int hides = 0;
    int candle = 50;
    boolean lit = false;
    int pages = 0;
    int cousin = -9;
    int gave = 0;

    int kind() { return 0; }

    int wealth() { return holds + hides; }

    int burns() { return 1 + wealth() / 10; }

    boolean honest() { return figure >= 4; }

    Owner copy() {
      Owner other = made(kind());
      other.number = number;
      other.figure = figure;
      other.holds = holds;
      other.hides = hides;
      other.candle = candle;
      other.lit = lit;
      other.pages = pages;
      other.cousin = cousin;
      return other;
    }

    /** The same one as of another kind. */
    Owner as(int kind) {
      Owner other = made(kind);
      other.figure = figure;
      other.holds = holds;
      other.hides = hides;
      other.candle = candle;
      return other;
    }

    Owner holding(int coins) {
      Owner other = copy();
      other.holds = coins;
      return other;
    }

    /** The same one with coins more: nobody HOLDS above 999, what is above is lost. */
    Owner given(int coins) {
      Owner other = copy();
      other.gets(coins);
      return other;
    }

    void gets(int coins) {
      for (int coin = 0; coin < coins && holds < 999; coin++) holds++;
    }

    void burn() {
      if (!lit) return;
      if (pages < 999) pages++;
      for (int tenth = burns(); tenth > 0 && candle > 0; tenth--) candle--;
      lit = candle > 0;
    }

    int lasts() {
      Owner tried = copy();
      tried.lit = tried.candle > 0;
      int hours = 0;
      while (tried.lit) {
        tried.burn();
        hours++;
      }
      return hours;
    }
  }

  static class Lord extends Owner {
    int kind() { return 1; }

    int wealth() { return super.wealth() + 10; }

    int burns() { return super.burns() + 1; }

    boolean honest() { return true; }
  }

  static class Debtor extends Owner {
    int kind() { return 2; }

    int wealth() { return Math.max(0, super.wealth() / 2 - figure); }
  }

  static class Miser extends Owner {
    int kind() { return 3; }

    int wealth() { return holds + hides + hides; }

    int burns() { return 1 + wealth() / 5; }

    boolean honest() { return false; }
  }

  static class Heir extends Lord {
    int kind() { return 4; }

    int wealth() { return super.wealth() - holds / 2; }
  }

  static class Pauper extends Debtor {
    int kind() { return 5; }

    int wealth() { return figure; }

    int burns() { return 1; }

    boolean honest() { return true; }
  }

  static Owner made(int kind) {
    switch (kind) {
      case 0: return new Owner();
      case 1: return new Lord();
      case 2: return new Debtor();
      case 3: return new Miser();
      case 4: return new Heir();
      case 5: return new Pauper();
      default: throw new Refused(-2);
    }
  }

  static final class World {
    final List<Owner> people = new ArrayList<>();
    int hour = 0;

    World copy() {
      World other = new World();
      for (Owner one : people) other.people.add(one.copy());
      other.hour = hour;
      return other;
    }

    Owner at(int i) { return people.get(i); }

    int size() { return people.size(); }

    void hours(int n) {
      for (int k = 0; k < n; k++) {
        hour++;
        for (Owner one : people) one.burn();
      }
    }

    void night(int n) {
      for (Owner one : people) {
        if (one.cousin < 0) continue;
        one.gave = one.holds;
        one.holds = 0;
        at(one.cousin).gets(one.gave);
      }
      for (Owner one : people) one.lit = one.candle > 0;
      hours(n);
      for (int i = size() - 1; i >= 0; i--) {
        Owner one = at(i);
        if (one.cousin < 0) continue;
        Owner from = at(one.cousin);
        int back = Math.min(from.honest() ? one.gave : one.gave / 2, from.holds);
        from.holds -= back;
        one.gets(back);
      }
      for (Owner one : people) one.lit = false;
    }

    int holds() { return people.stream().mapToInt(one -> one.holds).sum(); }

    int candles() { return people.stream().mapToInt(one -> one.candle).sum(); }

    int pages() { return people.stream().mapToInt(one -> one.pages).sum(); }

    int lit() { return (int) people.stream().filter(one -> one.lit).count(); }
  }

  private World now = new World();
  private World image = null;
  private final Deque<World> past = new ArrayDeque<>();
  private final StringBuilder letters = new StringBuilder();
  private final List<Integer> row = new ArrayList<>();
  private final int[] refusals = new int[7];

  public Model() {}

  /** How a refused call is counted. */
  int refused(Refused r) {
    refusals[-r.why]++;
    return r.why;
  }

  /** What personOf() tells, or 0 where there is no such one; nothing is refused. */
  int peek(int person, int what) {
    return person < 0 || person >= now.size() ? 0 : personOf(person, what);
  }

  // ---- wants ----

  private void one(int person) { if (person < 0 || person >= now.size()) throw new Refused(-1); }

  private void two(int one, int other) {
    one(one);
    one(other);
    if (one == other) throw new Refused(-1);
  }

  private static void what(int what, int most) { if (what < 0 || what > most) throw new Refused(-2); }

  private static void least(long v, int least) { if (v < least) throw new Refused(-4); }

  private static void most(long v, int most) { if (v > most) throw new Refused(-6); }

  private void keep() {
    past.addLast(now.copy());
    if (past.size() > 8) past.removeFirst();
  }

  /** The one of all for whom most is told, of several the least; -9. */
  private int whoMost(IntPredicate counts, IntUnaryOperator tells) {
    int found = -9;
    for (int i = now.size() - 1; i >= 0; i--) {
      if (!counts.test(i)) continue;
      if (found < 0 || tells.applyAsInt(i) >= tells.applyAsInt(found)) found = i;
    }
    return found;
  }

  private static int bits(int many, IntPredicate is) {
    int bits = 0;
    for (int i = 0; i < many; i++) if (is.test(i)) bits += 1 << i;
    return bits;
  }

  // ---- the calls ----

  public int feed(int letter) {
    least(letter, 0);
    most(letter, 255);
    if (letters.length() == 96) throw new Refused(-6);
    letters.append((char) letter);
    return letters.length();
  }

  private static final Pattern STATEMENT = Pattern.compile("p[0-9]{4};|[hc][0-9]{3};|[tn][0-9]{2};|l[0-9];");
  private static final Pattern TEXT = Pattern.compile("(?:" + STATEMENT.pattern() + ")+");

  public int town() {
    String text = letters.toString();
    letters.setLength(0);
    if (!TEXT.matcher(text).matches()) {
      int place = 0;
      while (place < text.length() && canGoOn(text.substring(0, place + 1))) place++;
      return -1000 - place;
    }
    World tried = now.copy();
    Matcher m = STATEMENT.matcher(text);
    int many = 0;
    while (m.find()) {
      if (!tell(tried, m.group())) return -2000 - m.start();
      many++;
    }
    now = tried;
    past.clear();
    return many;
  }

  private static boolean canGoOn(String text) {
    Matcher m = TEXT.matcher(text);
    return m.matches() || m.hitEnd();
  }

  private static boolean tell(World w, String s) {
    int a = s.charAt(1) - '0';
    if (s.charAt(0) == 'n') {
      int n = Integer.parseInt(s.substring(1, 3));
      if (n < 1 || n > 12 || w.hour + n > 999) return false;
      w.night(n);
      return true;
    }
    if (s.charAt(0) == 'p') {
      if (a > 5 || w.size() == 6) return false;
      join(w, a, s.charAt(2) - '0', Integer.parseInt(s.substring(3, 5)));
      return true;
    }
    if (a >= w.size()) return false;
    Owner one = w.at(a);
    switch (s.charAt(0)) {
      case 'h':
        one.hides = Integer.parseInt(s.substring(2, 4));
        return true;
      case 'c':
        one.candle = Integer.parseInt(s.substring(2, 4));
        if (one.candle == 0) one.lit = false;
        return true;
      case 't':
        int b = s.charAt(2) - '0';
        if (b >= w.size() || b == a) return false;
        one.cousin = one.cousin == b ? -9 : b;
        return true;
      default:
        if (one.candle == 0) return false;
        one.lit ^= true;
        return true;
    }
  }

  private static void join(World w, int kind, int figure, int holds) {
    Owner one = made(kind);
    one.number = w.size();
    one.figure = figure;
    one.holds = holds;
    w.people.add(one);
  }

  public int personOf(int person, int what) {
    one(person);
    what(what, 10);
    Owner p = now.at(person);
    int[] all = {p.kind(), p.figure, p.holds, p.hides, p.candle, p.lit ? 1 : 0, p.pages, p.cousin, p.wealth(),
        p.burns(), p.honest() ? 1 : 0};
    return all[what];
  }

  public int person(int kind, int figure, int holds) {
    what(kind, 5);
    least(Math.min(figure, holds), 0);
    most(figure, 9);
    most(holds, 99);
    most(now.size(), 5);
    join(now, kind, figure, holds);
    past.clear();
    return now.size() - 1;
  }

  public int sets(int person, int what, int v) {
    one(person);
    what(what, 2);
    least(v, 0);
    most(v, 99);
    keep();
    Owner p = now.at(person);
    int was = what == 0 ? p.holds : what == 1 ? p.hides : p.candle;
    if (what == 0) p.holds = v;
    if (what == 1) p.hides = v;
    if (what == 2) p.candle = v;
    if (p.candle == 0) p.lit = false;
    return was;
  }

  public int trusts(int one, int other) {
    two(one, other);
    keep();
    Owner p = now.at(one);
    boolean was = p.cousin == other;
    p.cousin = was ? -9 : other;
    return was ? 0 : 1;
  }

  public int lights(int person) {
    one(person);
    Owner p = now.at(person);
    if (p.candle == 0) throw new Refused(-3);
    keep();
    p.lit = !p.lit;
    return p.lit ? 1 : 0;
  }

  public int gives(int one, int other, int v) {
    two(one, other);
    least(v, 0);
    most(v, now.at(one).holds);
    most(now.at(other).holds + (long) v, 999);
    keep();
    now.at(one).holds -= v;
    return now.at(other).holds += v;
  }

  public int hours(int n) {
    least(n, 1);
    most(n, 99);
    most(now.hour + (long) n, 999);
    keep();
    now.hours(n);
    return now.lit();
  }

  public int nights(int n) {
    least(n, 1);
    most(n, 12);
    most(now.hour + (long) n, 999);
    keep();
    int pages = now.pages();
    now.night(n);
    return now.pages() - pages;
  }

  public int back() {
    if (past.isEmpty()) throw new Refused(-3);
    now = past.removeLast();
    return past.size();
  }

  private World hoursOn(int n) {
    World w = now.copy();
    w.hours(n);
    return w;
  }

  private World nightOn(int n) {
    World w = now.copy();
    w.night(n);
    return w;
  }

  public int behind(int person, int n, int what) {
    one(person);
    least(n, 0);
    most(n, 99);
    what(what, 2);
    Owner p = hoursOn(n).at(person);
    return what == 0 ? p.candle : what == 1 ? p.pages : p.lit ? 1 : 0;
  }

  public int all(int n, int what) {
    least(n, 0);
    most(n, 99);
    what(what, 1);
    World w = hoursOn(n);
    return what == 0 ? w.lit() : w.pages();
  }

  public int lasts(int person) {
    one(person);
    return now.at(person).lasts();
  }

  public int longest(int what) {
    what(what, 3);
    if (what == 2) {
      int n = 0;
      while (n < 100 && hoursOn(n).lit() > 0) n++;
      return n == 100 ? -9 : n;
    }
    if (what == 3) return whoMost(i -> now.at(i).lit, i -> -now.at(i).lasts());
    int who = whoMost(i -> true, i -> now.at(i).lasts());
    return what == 0 || who < 0 ? who : now.at(who).lasts();
  }

  public int give(int one, int other, int h) {
    two(one, other);
    least(h, 1);
    most(h, 99);
    for (int v = 0; v <= now.at(one).holds; v++) {
      if (now.at(one).holding(now.at(one).holds - v).lasts() >= h) return v;
    }
    return -9;
  }

  public int bestFriend(int person, int what) {
    one(person);
    what(what, 1);
    IntUnaryOperator together = i ->
        now.at(person).holding(0).lasts() + now.at(i).given(now.at(person).holds).lasts();
    int who = whoMost(i -> i != person, together);
    return what == 0 || who < 0 ? who : together.applyAsInt(who);
  }

  public int both(int one, int other, int what) {
    two(one, other);
    what(what, 1);
    Owner a = now.at(one);
    Owner b = now.at(other);
    int coins = 0;
    int best = -1;
    for (int v = a.holds; v >= 0; v--) {
      int lesser = Math.min(a.holding(a.holds - v).lasts(), b.given(v).lasts());
      if (lesser >= best) {
        best = lesser;
        coins = v;
      }
    }
    return what == 0 ? coins : best;
  }

  public int borrow(int person) {
    one(person);
    Owner p = now.at(person);
    return p.lasts() - p.given(10).lasts();
  }

  public int night(int person, int n, int what) {
    one(person);
    least(n, 1);
    most(n, 12);
    what(what, 2);
    Owner p = nightOn(n).at(person);
    return what == 0 ? p.holds : what == 1 ? p.candle : p.pages - now.at(person).pages;
  }

  public int nightOfAll(int n, int what) {
    least(n, 1);
    most(n, 12);
    what(what, 1);
    World w = nightOn(n);
    return what == 0 ? w.pages() - now.pages() : now.holds() - w.holds();
  }

  private Owner trusting(int person, int cousin, int n) {
    World w = now.copy();
    w.at(person).cousin = cousin;
    w.night(n);
    return w.at(person);
  }

  public int trust(int person, int n) {
    one(person);
    least(n, 1);
    most(n, 12);
    int who = whoMost(i -> i != person, i -> trusting(person, i, n).pages);
    if (who < 0) return -9;
    return trusting(person, -9, n).pages >= trusting(person, who, n).pages ? 9 : who;
  }

  public int safe(int person, int n) {
    one(person);
    least(n, 1);
    most(n, 12);
    return bits(now.size(), i -> i != person && trusting(person, i, n).holds >= now.at(person).holds);
  }

  public int relay(int what) {
    what(what, 1);
    int sum = now.people.stream().mapToInt(Owner::lasts).sum();
    int most = now.people.stream().mapToInt(Owner::lasts).max().orElse(0);
    return what == 0 ? sum : Math.min(sum / 2, sum - most);
  }

  public int tax(int t, int what) {
    least(t, 0);
    most(t, 9);
    what(what, 1);
    if (what == 0) return now.people.stream().mapToInt(p -> t * p.burns()).sum();
    return whoMost(i -> true, i -> t * now.at(i).burns());
  }

  public int hide(int person) {
    one(person);
    Owner p = now.at(person);
    int best = -1;
    int least = Integer.MAX_VALUE;
    for (int v = 0; v <= p.holds && p.hides + v <= 99; v++) {
      Owner tried = p.holding(p.holds - v);
      tried.hides += v;
      if (tried.wealth() < least) {
        least = tried.wealth();
        best = v;
      }
    }
    return best;
  }

  private boolean tells(Owner p) {
    Owner tried = p.as(p.kind());
    tried.lit = tried.candle > 0;
    for (int told : row) {
      if (told != tried.candle) return false;
      tried.burn();
    }
    return true;
  }

  public int whatHeHolds(int person, int what) {
    one(person);
    what(what, 3);
    Owner p = now.at(person);
    if (what == 2) return bits(6, k -> tells(p.as(k)));
    if (what == 3) {
      return bits(10, f -> {
        Owner tried = p.copy();
        tried.figure = f;
        return tells(tried);
      });
    }
    int many = 0;
    int least = -9;
    for (int holds = 99; holds >= 0; holds--) {
      if (tells(p.holding(holds))) {
        many++;
        least = holds;
      }
    }
    return what == 0 ? many : least;
  }

  public int whoGave(int person) {
    one(person);
    Owner p = now.at(person);
    return bits(now.size(), i -> i != person && tells(p.given(now.at(i).holds)));
  }

  public int halve(int one, int other) {
    two(one, other);
    Owner a = now.at(one);
    Owner b = now.at(other);
    for (int pair : new int[] {0, 1, 10, 11}) {
      int x = pair / 10;
      int y = pair % 10;
      boolean aStays = halved(a, b, x, y) >= halved(a, b, 1 - x, y);
      boolean bStays = halved(b, a, y, x) >= halved(b, a, 1 - y, x);
      if (aStays && bStays) return pair;
    }
    return -9;
  }

  private static int halved(Owner own, Owner his, int gives, int gets) {
    Owner left = gives == 1 && own.holds > 0 ? own.holding(own.holds - 1) : own;
    return left.given(gets == 1 && his.holds > 0 ? 1 : 0).lasts();
  }

  public long draft(int person, int n, int t, int part) {
    one(person);
    least(n, 0);
    least(t, 2);
    most(n, 8);
    most(t, 20);
    what(part, 1);
    Owner p = now.at(person);
    BigInteger ways = ways(p.candle, p.burns(), n, t);
    return lowest(ways, BigInteger.valueOf(t).pow(n), part);
  }

  private static BigInteger ways(int candle, int burns, int n, int t) {
    if (candle <= 0) return BigInteger.ZERO;
    if (n == 0) return BigInteger.ONE;
    BigInteger calm = ways(candle - burns, burns, n - 1, t).multiply(BigInteger.valueOf(t - 1));
    return calm.add(ways(candle - burns - 2, burns, n - 1, t));
  }

  private static long lowest(BigInteger above, BigInteger below, int part) {
    BigInteger common = above.gcd(below);
    return (part == 0 ? above : below).divide(common).longValueExact();
  }

  public int shares(int what) {
    what(what, 1);
    int many = now.size();
    if (many == 0) return 0;
    int each = 0;
    int left = now.candles();
    while (left >= many) {
      left -= many;
      each++;
    }
    return what == 0 ? each : left;
  }

  public int richest(int what) {
    what(what, 1);
    return whoMost(i -> true, i -> what == 0 ? now.at(i).wealth() : -now.at(i).wealth());
  }

  public long mean(int part) {
    what(part, 1);
    if (now.size() == 0) return part;
    int sum = now.people.stream().mapToInt(Owner::wealth).sum();
    return lowest(BigInteger.valueOf(sum), BigInteger.valueOf(now.size()), part);
  }

  public int apart() {
    int most = now.people.stream().mapToInt(Owner::wealth).max().orElse(0);
    return most - now.people.stream().mapToInt(Owner::wealth).min().orElse(0);
  }

  public int ring(int person) {
    one(person);
    List<Integer> come = new ArrayList<>();
    int at = person;
    while (at >= 0 && !come.contains(at)) {
      come.add(at);
      at = now.at(at).cousin;
    }
    return come.size();
  }

  public int above(int v) {
    least(v, 0);
    most(v, 999);
    return (int) now.people.stream().filter(p -> p.wealth() >= v).count();
  }

  public int trusted(int person) {
    one(person);
    return (int) now.people.stream().filter(p -> p.cousin == person).count();
  }

  public int unlit() { return bits(now.size(), i -> now.at(i).candle > 0 && !now.at(i).lit); }

  public int gap(int n) {
    least(n, 1);
    most(n, 12);
    return whoMost(i -> true, i -> {
      World w = now.copy();
      w.at(i).candle = 99;
      w.night(n);
      return w.at(i).pages - nightOn(n).at(i).pages;
    });
  }

  public int same() {
    int many = 0;
    for (Owner a : now.people) for (Owner b : now.people) if (a.number < b.number && a.lasts() == b.lasts()) many++;
    return many;
  }

  public int row(int v) {
    least(v, 0);
    most(v, 99);
    most(row.size(), 11);
    row.add(v);
    return row.size();
  }

  public int judge() {
    int found = -9;
    for (int i = row.size() - 1; i >= 0; i--) {
      if (i >= now.size() || now.at(i).candle != row.get(i)) found = i;
    }
    row.clear();
    return found;
  }

  public int clear() {
    int had = row.size();
    row.clear();
    return had;
  }

  public int lots(int n, int z, int what) {
    least(n, 1);
    most(n, 20);
    what(what, 1);
    BigInteger seed = BigInteger.valueOf(z);
    int pages = 0;
    int dark = 0;
    for (int k = 0; k < n; k++) {
      World w = now.copy();
      for (Owner p : w.people) {
        seed = seed.multiply(BigInteger.valueOf(1103515245)).add(BigInteger.valueOf(12345));
        seed = seed.mod(BigInteger.ONE.shiftLeft(32));
        int low = seed.mod(BigInteger.ONE.shiftLeft(31)).intValueExact();
        p.holds = low / 65536 % 60;
      }
      w.night(8);
      pages += w.pages() - now.pages();
      for (Owner p : w.people) if (p.candle == 0) dark++;
    }
    return what == 0 ? pages : dark;
  }

  public int image() {
    image = now.copy();
    return now.hour;
  }

  public int restore() {
    if (image == null) throw new Refused(-3);
    now = image.copy();
    past.clear();
    return now.hour;
  }

  public int count(int what) {
    switch (what) {
      case 0: return now.size();
      case 1: return now.hour;
      case 2: return bits(now.size(), i -> now.at(i).lit);
      case 3: return now.holds();
      case 4: return now.candles();
      case 5: return now.pages();
      case 6: return letters.length();
      case 7: return row.size();
      case 8: return past.size();
      default: return what > 10 && what < 17 ? refusals[what - 10] : -9;
    }
  }
}
