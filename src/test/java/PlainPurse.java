import java.math.BigInteger;
import java.util.ArrayList;
import java.util.Arrays;
import java.util.HashSet;
import java.util.List;
import java.util.Set;

/**
 * The document once more, in the plainest words and without regard to cost: RandomRunsTest
 * compares RainPurse with it. It has been written from DOC.md, not from RainPurse.java.
 */
final class PlainPurse {
  static final long LOW = -1000000000000L;

  /** An ERROR, as k of LOW - k. */
  private static final class Refused extends RuntimeException {
    final int k;

    Refused(int k) {
      super(null, null, false, false);
      this.k = k;
    }
  }

  private static final class Fault extends RuntimeException {
    final int place;

    Fault(int place) {
      super(null, null, false, false);
      this.place = place;
    }
  }

  private static final class Field {
    int worth;
    int rain;
    int sum;
    int pennies;

    Field copy() {
      Field f = new Field();
      f.worth = worth;
      f.rain = rain;
      f.sum = sum;
      f.pennies = pennies;
      return f;
    }
  }

  private static final class World {
    List<Field> fields = new ArrayList<>();
    List<Integer> laws = new ArrayList<>();
    int force = -1;
    int off = 2;
    int spread = 10;
    int[] comes = new int[4];
    List<List<Integer>> skies = new ArrayList<>();
    int day;
    int z = 1;
    List<Integer> tape = new ArrayList<>();
    List<Integer> waiting = new ArrayList<>();
    String[] texts = new String[2];

    World() {
      for (int w = 0; w < 4; w++) {
        skies.add(new ArrayList<>());
      }
    }

    World copy() {
      World c = new World();
      for (Field f : fields) {
        c.fields.add(f.copy());
      }
      c.laws.addAll(laws);
      c.force = force;
      c.off = off;
      c.spread = spread;
      c.comes = comes.clone();
      for (int w = 0; w < 4; w++) {
        c.skies.get(w).addAll(skies.get(w));
      }
      c.day = day;
      c.z = z;
      c.tape.addAll(tape);
      c.waiting.addAll(waiting);
      c.texts = texts.clone();
      return c;
    }
  }

  private World now = new World();
  private World image;
  private int images;
  private final int[] toldErrors = new int[7];
  private final int[][] sheets = new int[4][];
  private final int[] bits = new int[4];
  private List<Integer> trace = new ArrayList<>();

  /** Answers a call by its name, with ERRORS in longs. */
  long call(String name, long... a) {
    try {
      return answer(name, a);
    } catch (Refused r) {
      toldErrors[r.k]++;
      return LOW - r.k;
    }
  }

  private long answer(String name, long[] a) {
    int p = a.length > 0 ? (int) a[0] : 0;
    int q = a.length > 1 ? (int) a[1] : 0;
    int r = a.length > 2 ? (int) a[2] : 0;
    int s = a.length > 3 ? (int) a[3] : 0;
    int t = a.length > 4 ? (int) a[4] : 0;
    switch (name) {
      case "field": return field(p);
      case "fieldIs": return fieldIs(p, q);
      case "set": return set(p, q, r);
      case "law": return law(p);
      case "lawIs": return lawIs(p, q);
      case "as": return as(p, q);
      case "become": return become(p, q);
      case "force": return force(p);
      case "feed": return feed(a[0], q);
      case "text": return text(p);
      case "untell": return untell(p);
      case "evening": return evening();
      case "settle": return settle(p);
      case "night": return night(p, q);
      case "two": return two();
      case "gauge": return gauge(p, q);
      case "wrong": return wrong(p);
      case "weather": return weather(p, q);
      case "rain": return rain(p, q, r);
      case "days": return days(p);
      case "seed": return seed(p);
      case "mean": return mean(p, q);
      case "evenest": return evenest();
      case "fails": return fails(p, q, r, s);
      case "stands": return stands(p, q, r);
      case "book": return book(p, q, r);
      case "voice": return voice(p, q, r);
      case "body": return body(p);
      case "sheet": return sheet(p, q, r);
      case "put": return put(p, q, r);
      case "move": return move(p, q, r, s, t);
      case "rains": return rains(p);
      case "judge": return judge(p);
      case "play": return play(p);
      case "image": return image();
      case "restore": return restore();
      case "tell": return tell(p);
      case "check": return check();
      case "count": return count(p);
      case "told": return told(p);
      default: throw new IllegalStateException(name);
    }
  }

  private static void need(boolean right, int k) {
    if (!right) {
      throw new Refused(k);
    }
  }

  private static boolean in(long v, long low, long high) {
    return v >= low && v <= high;
  }

  private int field(int worth) {
    need(in(worth, 0, 20), 1);
    need(now.fields.size() < 8, 4);
    Field f = new Field();
    f.worth = worth;
    now.fields.add(f);
    for (List<Integer> sky : now.skies) {
      sky.add(0);
    }
    return now.fields.size() - 1;
  }

  private Field needField(int field) {
    need(in(field, 0, now.fields.size() - 1), 1);
    return now.fields.get(field);
  }

  private int needLaw(int law) {
    need(in(law, 0, now.laws.size() - 1), 1);
    return now.laws.get(law);
  }

  private int fieldIs(int field, int what) {
    Field f = needField(field);
    need(in(what, 0, 6), 1);
    int[] all = {f.worth, f.rain, f.sum, f.pennies, owes(now, now.force, f),
        pays(now, now.force).get(field), crop(f)};
    return all[what];
  }

  private int crop(Field f) {
    if (now.texts[1] == null) {
      return f.rain * f.worth;
    }
    int v = new Evaluator(now.texts[1], f.rain, f.worth, 0, 0, now.day).value();
    return Math.max(-9999, Math.min(9999, v));
  }

  private static int owes(World world, int law, Field f) {
    if (law < 0) {
      return 0;
    }
    int kind = world.laws.get(law) / 10;
    int m = world.laws.get(law) % 10;
    switch (kind) {
      case 0: return f.rain > 0 ? 1 : 0;
      case 1: return f.rain * m / 10;
      case 2: return f.rain * f.worth / 10;
      case 3: return f.rain > 50 ? -(f.rain * m / 10) : f.rain * m / 10;
      case 4: return f.rain * m / 10 + f.sum / 10;
      case 5: return f.rain * f.worth / 10 + m;
      default:
        if (world.texts[0] == null) {
          return f.rain / 10 - m;
        }
        int v = new Evaluator(world.texts[0], f.rain, f.worth, f.sum, m, 0).value();
        return Math.max(-999, Math.min(999, v));
    }
  }

  private static List<Integer> pays(World world, int law) {
    int all = 0;
    for (Field f : world.fields) {
      all += owes(world, law, f);
    }
    List<Integer> pays = new ArrayList<>();
    for (Field f : world.fields) {
      pays.add(owes(world, law, f) * world.fields.size() - all);
    }
    return pays;
  }

  private static int evening(World world) {
    List<Integer> pays = pays(world, world.force);
    int paid = 0;
    for (int i = 0; i < pays.size(); i++) {
      Field f = world.fields.get(i);
      long after = (long) f.pennies - pays.get(i);
      f.pennies = (int) Math.max(-999999999L, Math.min(999999999L, after));
      f.sum += f.rain;
      f.rain = 0;
      if (pays.get(i) > 0) {
        paid++;
      }
    }
    world.day++;
    if (world.day % 7 == 0) {
      for (Field f : world.fields) {
        f.sum = 0;
      }
    }
    return paid;
  }

  private static void rainOf(World world, int w) {
    for (int i = 0; i < world.fields.size(); i++) {
      world.fields.get(i).rain = world.skies.get(w).get(i);
    }
  }

  private static void dayOf(World world, int w) {
    rainOf(world, w);
    evening(world);
  }

  private int set(int field, int what, int v) {
    Field f = needField(field);
    need(in(what, 0, 1), 1);
    need(in(v, 0, what == 0 ? 20 : 99), 1);
    int was;
    if (what == 0) {
      was = f.worth;
      f.worth = v;
    } else {
      was = f.rain;
      f.rain = v;
    }
    return was;
  }

  private int law(int km) {
    need(in(km, 0, 69), 1);
    need(now.laws.size() < 5, 4);
    now.laws.add(km);
    return now.laws.size() - 1;
  }

  private int lawIs(int law, int what) {
    int km = needLaw(law);
    need(in(what, 0, 3), 1);
    int all = 0;
    for (Field f : now.fields) {
      all += owes(now, law, f);
    }
    return new int[] {km / 10, km % 10, now.force == law ? 1 : 0, all}[what];
  }

  private static List<Integer> chain(int kind) {
    switch (kind) {
      case 0: return List.of(0);
      case 1: return List.of(1, 0);
      case 2: return List.of(2, 0);
      case 3: return List.of(3, 1, 0);
      case 4: return List.of(4, 1, 0);
      case 5: return List.of(5, 2, 0);
      default: return List.of(6, 0);
    }
  }

  private int as(int law, int kind) {
    int km = needLaw(law);
    need(in(kind, 0, 6), 1);
    need(chain(km / 10).contains(kind), 5);
    return km % 10;
  }

  private int become(int law, int km) {
    int was = needLaw(law);
    need(in(km, 0, 69), 1);
    now.laws.set(law, km);
    return was;
  }

  private int force(int law) {
    need(in(law, -1, now.laws.size() - 1), 1);
    int was = now.force;
    now.force = law;
    return was;
  }

  private int feed(long word, int n) {
    need(in(n, 1, 8), 1);
    need(now.tape.size() + n <= 60, 4);
    for (int i = 0; i < n; i++) {
      now.tape.add((int) ((word >> (8 * i)) & 0xff));
    }
    return now.tape.size();
  }

  private int text(int use) {
    need(in(use, 0, 1), 1);
    StringBuilder b = new StringBuilder();
    for (int v : now.tape) {
      b.append((char) v);
    }
    now.tape.clear();
    try {
      new Grammar(b.toString(), use == 0 ? "rwsm" : "rwd").whole();
    } catch (Fault f) {
      return -10 - f.place;
    }
    now.texts[use] = b.toString();
    return 1;
  }

  private int untell(int use) {
    need(in(use, 0, 1), 1);
    int was = now.texts[use] == null ? 0 : 1;
    now.texts[use] = null;
    return was;
  }

  private int evening() {
    need(now.day < 9999, 3);
    return evening(now);
  }

  private int settle(int what) {
    need(in(what, 0, 2), 1);
    List<Integer> pays = pays(now, now.force);
    List<Integer> who = new ArrayList<>();
    for (int i = 0; i < pays.size(); i++) {
      if (pays.get(i) != 0) {
        who.add(i);
      }
    }
    int heaps = mostHeaps(pays, who, 0, new int[8], 0);
    if (what == 0) {
      return who.size() - heaps;
    }
    if (what == 1) {
      return heaps;
    }
    for (int set = 1; set < 256; set++) {
      if (isNought(pays, set) && noPartIsNought(pays, set)) {
        return set;
      }
    }
    return 0;
  }

  /** Parts FIELDS in every way, each into one of the sets so far or into a new one. */
  private static int mostHeaps(List<Integer> pays, List<Integer> who, int i, int[] sums, int sets) {
    if (i == who.size()) {
      for (int s = 0; s < sets; s++) {
        if (sums[s] != 0) {
          return 0;
        }
      }
      return sets;
    }
    int best = 0;
    for (int s = 0; s <= sets && s < 8; s++) {
      sums[s] += pays.get(who.get(i));
      best = Math.max(best, mostHeaps(pays, who, i + 1, sums, Math.max(sets, s + 1)));
      sums[s] -= pays.get(who.get(i));
    }
    return best;
  }

  private static boolean isNought(List<Integer> pays, int set) {
    int sum = 0;
    for (int i = 0; i < 8; i++) {
      if ((set >> i & 1) == 1) {
        if (i >= pays.size() || pays.get(i) == 0) {
          return false;
        }
        sum += pays.get(i);
      }
    }
    return sum == 0;
  }

  private static boolean noPartIsNought(List<Integer> pays, int set) {
    for (int part = 1; part < set; part++) {
      if ((part & set) == part && isNought(pays, part)) {
        return false;
      }
    }
    return true;
  }

  private int night(int field, int less) {
    Field f = needField(field);
    need(in(less, 0, 99), 1);
    int pays = pays(now, now.force).get(field);
    int rain = f.rain;
    f.rain = Math.max(0, rain - less);
    int then = pays(now, now.force).get(field);
    f.rain = rain;
    return pays - then;
  }

  private int two() {
    need(now.fields.size() >= 2, 2);
    long least = Long.MAX_VALUE;
    int best = 0;
    for (int i = 0; i < now.fields.size(); i++) {
      for (int j = i + 1; j < now.fields.size(); j++) {
        World pair = now.copy();
        pair.fields = List.of(now.fields.get(i), now.fields.get(j));
        long squares = 0;
        for (int p : pays(pair, pair.force)) {
          squares += (long) p * p;
        }
        if (squares < least) {
          least = squares;
          best = 10 * i + j;
        }
      }
    }
    return best;
  }

  private int gauge(int what, int v) {
    need(in(what, 0, 1) && in(v, 0, 99), 1);
    int was;
    if (what == 0) {
      was = now.off;
      now.off = v;
    } else {
      was = now.spread;
      now.spread = v;
    }
    return was;
  }

  private int wrong(int what) {
    need(in(what, 0, 3), 1);
    int n = now.fields.size();
    for (int bad = 0; bad <= n; bad++) {
      Set<Integer> sets = new HashSet<>();
      for (int set = 0; set < 1 << n; set++) {
        if (Integer.bitCount(set) == bad && isRightWithout(set)) {
          sets.add(set);
        }
      }
      if (!sets.isEmpty()) {
        int least = 255;
        int surely = 255;
        int maybe = 0;
        for (int set : sets) {
          least = Math.min(least, set);
          surely &= set;
          maybe |= set;
        }
        return new int[] {bad, least, surely, maybe}[what];
      }
    }
    throw new IllegalStateException();
  }

  private boolean isRightWithout(int wrong) {
    int n = now.fields.size();
    for (int i = 0; i < n; i++) {
      for (int j = 0; j < n; j++) {
        boolean both = (wrong >> i & 1) == 0 && (wrong >> j & 1) == 0;
        int apart = Math.abs(now.fields.get(i).rain - now.fields.get(j).rain);
        if (both && apart > 2 * now.off + now.spread * Math.abs(i - j)) {
          return false;
        }
      }
    }
    return true;
  }

  private int weather(int w, int days) {
    need(in(w, 0, 3) && in(days, 0, 16), 1);
    int was = now.comes[w];
    need(Arrays.stream(now.comes).sum() - was + days <= 16, 3);
    now.comes[w] = days;
    return was;
  }

  private int rain(int w, int field, int v) {
    need(in(w, 0, 3), 1);
    needField(field);
    need(in(v, 0, 99), 1);
    return now.skies.get(w).set(field, v);
  }

  private void needWhole() {
    need(Arrays.stream(now.comes).sum() == 16, 3);
  }

  private int days(int n) {
    need(in(n, 1, 60), 1);
    needWhole();
    need(now.day + n <= 9999, 3);
    for (int i = 0; i < n; i++) {
      now.z = now.z * 1103515245 + 12345;
      int rest = (now.z >>> 8) % 16;
      List<Integer> drum = new ArrayList<>();
      for (int w = 0; w < 4; w++) {
        for (int c = 0; c < now.comes[w]; c++) {
          drum.add(w);
        }
      }
      dayOf(now, drum.get(rest));
    }
    return now.fields.isEmpty() ? 0 : now.fields.get(0).pennies;
  }

  private int seed(int v) {
    int was = now.z;
    now.z = v;
    return was;
  }

  private long[] means(int law) {
    long[] means = new long[now.fields.size()];
    for (int w = 0; w < 4; w++) {
      World then = now.copy();
      rainOf(then, w);
      List<Integer> pays = pays(then, law);
      for (int i = 0; i < means.length; i++) {
        means[i] += (long) now.comes[w] * pays.get(i);
      }
    }
    return means;
  }

  private static long part(long above, long below, int part) {
    BigInteger a = BigInteger.valueOf(above);
    BigInteger b = BigInteger.valueOf(below);
    return (part == 0 ? a : b).divide(a.gcd(b)).longValueExact();
  }

  private int mean(int field, int part) {
    needField(field);
    need(in(part, 0, 1), 1);
    needWhole();
    return (int) part(means(now.force)[field], 16, part);
  }

  private int evenest() {
    need(!now.laws.isEmpty(), 2);
    needWhole();
    int best = -1;
    long least = Long.MAX_VALUE;
    for (int law = 0; law < now.laws.size(); law++) {
      long squares = 0;
      for (long m : means(law)) {
        squares += m * m;
      }
      if (squares < least) {
        least = squares;
        best = law;
      }
    }
    return best;
  }

  /** The chances by which each purse, that just stands, comes: pairs of purse and weight. */
  private static void purses(World world, int field, int start, int n, int least, long weight,
      List<long[]> into) {
    if (n == 0) {
      into.add(new long[] {start - least, weight});
      return;
    }
    for (int w = 0; w < 4; w++) {
      if (world.comes[w] > 0) {
        World then = world.copy();
        dayOf(then, w);
        int after = then.fields.get(field).pennies;
        purses(then, field, start, n - 1, Math.min(least, after), weight * world.comes[w], into);
      }
    }
  }

  private List<long[]> purses(int field, int n) {
    List<long[]> all = new ArrayList<>();
    World world = now.copy();
    world.fields.get(field).pennies = 0;
    purses(world, field, 0, n, 0, 1, all);
    return all;
  }

  private static long failing(List<long[]> purses, long b) {
    long weight = 0;
    for (long[] p : purses) {
      if (p[0] > b) {
        weight += p[1];
      }
    }
    return weight;
  }

  private long fails(int field, int b, int n, int part) {
    needField(field);
    need(in(b, 0, 99999) && in(n, 1, 6) && in(part, 0, 1), 1);
    needWhole();
    return part(failing(purses(field, n), b), (long) Math.pow(16, n), part);
  }

  private int stands(int field, int n, int k) {
    needField(field);
    need(in(n, 1, 6) && in(k, 1, 99), 1);
    needWhole();
    List<long[]> purses = purses(field, n);
    Set<Long> candidates = new HashSet<>();
    candidates.add(0L);
    for (long[] p : purses) {
      candidates.add(p[0]);
    }
    long least = Long.MAX_VALUE;
    for (long b : candidates) {
      if (failing(purses, b) * 100 <= k * (long) Math.pow(16, n)) {
        least = Math.min(least, b);
      }
    }
    need(least <= 99999, 2);
    return (int) least;
  }

  private static int rowsTo(World world, int field, int n, int pennies) {
    if (n == 0) {
      return world.fields.get(field).pennies == pennies ? 1 : 0;
    }
    int rows = 0;
    for (int w = 0; w < 4; w++) {
      if (world.comes[w] > 0) {
        World then = world.copy();
        dayOf(then, w);
        rows += rowsTo(then, field, n - 1, pennies);
      }
    }
    return rows;
  }

  private int book(int field, int n, int pennies) {
    needField(field);
    need(in(n, 0, 6), 1);
    return rowsTo(now.copy(), field, n, pennies);
  }

  private int voice(int law, int voice, int x) {
    int km = needLaw(law);
    need(in(voice, 0, 3), 1);
    trace = new ArrayList<>();
    return new Speaker(km / 10, km % 10, law, trace).say(km / 10, voice, x);
  }

  private int body(int i) {
    need(in(i, 0, trace.size() - 1), 2);
    return trace.get(i);
  }

  private void needSheet(int sheet) {
    need(in(sheet, 0, 3), 1);
    need(bits[sheet] != 0, 2);
  }

  private int sheet(int sheet, int itsBits, int n) {
    need(in(sheet, 0, 3), 1);
    need(itsBits == 0 || itsBits == 8 || itsBits == 16 || itsBits == 32, 1);
    if (itsBits != 0) {
      need(n >= 0, 3);
      need(n <= 24, 1);
      sheets[sheet] = new int[n];
    }
    bits[sheet] = itsBits;
    return 1;
  }

  private int put(int sheet, int i, int v) {
    needSheet(sheet);
    need(in(i, 0, sheets[sheet].length - 1), 1);
    sheets[sheet][i] = bits[sheet] == 8 ? (byte) v : bits[sheet] == 16 ? (short) v : v;
    return 1;
  }

  private int move(int sheet, int i, int other, int j, int n) {
    need(in(sheet, 0, 3) && in(other, 0, 3), 1);
    need(bits[sheet] != 0 && bits[other] != 0, 2);
    need(bits[sheet] == bits[other], 5);
    need(n >= 0 && i >= 0 && j >= 0, 1);
    need((long) i + n <= sheets[sheet].length && (long) j + n <= sheets[other].length, 1);
    int[] were = Arrays.copyOfRange(sheets[sheet], i, i + n);
    for (int k = 0; k < n; k++) {
      sheets[other][j + k] = were[k];
    }
    return n;
  }

  private int rains(int sheet) {
    needSheet(sheet);
    int came = 0;
    for (int v : sheets[sheet]) {
      if (came == now.fields.size() || !in(v, 0, 99)) {
        break;
      }
      now.fields.get(came++).rain = v;
    }
    return came;
  }

  private int judge(int sheet) {
    needSheet(sheet);
    int[] row = sheets[sheet];
    int n = now.fields.size();
    long[] paid = new long[n];
    for (int i = 0; i < row.length; i += 3) {
      if (i + 3 > row.length || !in(row[i], 0, n - 1) || !in(row[i + 1], 0, n - 1)
          || row[i] == row[i + 1] || row[i + 2] <= 0) {
        return i / 3;
      }
      paid[row[i]] += row[i + 2];
      paid[row[i + 1]] -= row[i + 2];
    }
    List<Integer> pays = pays(now, now.force);
    for (int i = 0; i < n; i++) {
      if (paid[i] != pays.get(i)) {
        return row.length / 3 + 100;
      }
    }
    return row.length / 3;
  }

  private int play(int sheet) {
    needSheet(sheet);
    int gone = 0;
    for (int w : sheets[sheet]) {
      if (!in(w, 0, 3) || now.day == 9999) {
        break;
      }
      dayOf(now, w);
      gone++;
    }
    return gone;
  }

  private int image() {
    image = now.copy();
    return ++images;
  }

  private int restore() {
    need(image != null, 2);
    now = image.copy();
    return now.day;
  }

  private int tell(int v) {
    need(now.waiting.size() < 24, 4);
    now.waiting.add(v);
    return now.waiting.size();
  }

  private int check() {
    List<Integer> waited = new ArrayList<>(now.waiting);
    now.waiting.clear();
    List<Integer> pays = pays(now, now.force);
    if (waited.equals(pays)) {
      return 0;
    }
    int i = 0;
    while (i < waited.size() && i < pays.size() && waited.get(i).equals(pays.get(i))) {
      i++;
    }
    return 1 + i;
  }

  private int count(int what) {
    need(in(what, 0, 13), 1);
    int[] all = {now.fields.size(), now.laws.size(), now.day, now.force, now.off, now.spread,
        now.tape.size(), now.waiting.size(), trace.size(), now.z,
        now.comes[0], now.comes[1], now.comes[2], now.comes[3]};
    return all[what];
  }

  private int told(int k) {
    need(in(k, 1, 6), 1);
    return toldErrors[k];
  }

  /** BODIES, written out for each KIND. */
  private static final class Speaker {
    private final int own;
    private final int m;
    private final int k;
    private final List<Integer> trace;

    Speaker(int own, int m, int k, List<Integer> trace) {
      this.own = own;
      this.m = m;
      this.k = k;
      this.trace = trace;
    }

    private int begin(int body) {
      if (trace.size() < 30) {
        trace.add(body);
      }
      return body;
    }

    int say(int kind, int voice, int x) {
      switch (voice) {
        case 0: return rains(kind, x);
        case 1: return owes(kind, x);
        case 2: return pays(kind, x);
        default: return parts(kind, x);
      }
    }

    private int rains(int kind, int x) {
      switch (kind) {
        case 1: case 4: begin(20); return rains(0, x) - 6;
        case 3: begin(40); return rains(1, x) * 3;
        case 6: begin(70); return 4;
        default: begin(10); return x + k;
      }
    }

    private int owes(int kind, int x) {
      switch (kind) {
        case 2: begin(30); return 0 - owes(0, x);
        case 5: begin(60); return owes(2, x + 1);
        case 6: begin(71); return owes(0, x) + m;
        default: begin(11); return rains(own, x) * 2;
      }
    }

    private int pays(int kind, int x) {
      switch (kind) {
        case 3: begin(41); return pays(1, x) ^ k;
        case 4: begin(50); return pays(1, x / 2);
        default: begin(12); return owes(own, x) - m;
      }
    }

    private int parts(int kind, int x) {
      switch (kind) {
        case 1: case 3: case 4: {
          begin(21);
          int left = parts(0, x);
          return left + owes(own, 1);
        }
        default:
          begin(13);
          need(m - k != 0, 6);
          return x / (m - k);
      }
    }
  }

  /** Finds the FAULT by asking, for each byte, whether some TEXT goes on with it. */
  private static final class Grammar {
    private final String bytes;
    private final String names;
    private int at;

    Grammar(String bytes, String names) {
      this.bytes = bytes;
      this.names = names;
    }

    private boolean on(String signs) {
      return at < bytes.length() && signs.indexOf(bytes.charAt(at)) >= 0;
    }

    void whole() {
      t(0);
      if (at < bytes.length()) {
        throw new Fault(at);
      }
    }

    private void t(int open) {
      a(open);
      while (on("|")) {
        at++;
        a(open);
      }
    }

    private void a(int open) {
      b(open);
      while (on("&")) {
        at++;
        b(open);
      }
    }

    private void b(int open) {
      s(open);
      if (on("<=>")) {
        at++;
        s(open);
      }
    }

    private void s(int open) {
      p(open);
      while (on("+-")) {
        at++;
        p(open);
      }
    }

    private void p(int open) {
      q(open);
      while (on("*/%")) {
        at++;
        q(open);
      }
    }

    private void q(int open) {
      if (on("0123456789")) {
        int from = at;
        while (on("0123456789") && at - from < 4) {
          at++;
        }
      } else if (on(names)) {
        at++;
      } else if (on("!") && open < 5) {
        at++;
        q(open + 1);
      } else if (on("(") && open < 5) {
        at++;
        t(open + 1);
        if (!on(")")) {
          throw new Fault(at);
        }
        at++;
      } else {
        throw new Fault(at);
      }
    }
  }

  /** Works a right TEXT out by splitting it at its loosest operator that stands furthest right. */
  private static final class Evaluator {
    private final String text;
    private final int r;
    private final int w;
    private final int s;
    private final int m;
    private final int d;

    Evaluator(String text, int r, int w, int s, int m, int d) {
      this.text = text;
      this.r = r;
      this.w = w;
      this.s = s;
      this.m = m;
      this.d = d;
    }

    int value() {
      return value(0, text.length());
    }

    private int value(int from, int to) {
      for (String level : List.of("|", "&", "<=>", "+-", "*/%")) {
        int open = 0;
        for (int i = to - 1; i >= from; i--) {
          char c = text.charAt(i);
          open += c == ')' ? 1 : c == '(' ? -1 : 0;
          if (open == 0 && level.indexOf(c) >= 0) {
            return join(c, value(from, i), value(i + 1, to));
          }
        }
      }
      char c = text.charAt(from);
      switch (c) {
        case '!': return value(from + 1, to) == 0 ? 1 : 0;
        case '(': return value(from + 1, to - 1);
        case 'r': return r;
        case 'w': return w;
        case 's': return s;
        case 'm': return m;
        case 'd': return d;
        default: return Integer.parseInt(text.substring(from, to));
      }
    }

    private static int join(char c, int a, int b) {
      boolean truth;
      switch (c) {
        case '|': truth = a != 0 | b != 0; break;
        case '&': truth = a != 0 & b != 0; break;
        case '<': truth = a < b; break;
        case '=': truth = a == b; break;
        case '>': truth = a > b; break;
        case '+': return a + b;
        case '-': return a - b;
        case '*': return a * b;
        case '/': return b == 0 ? 0 : a / b;
        default: return b == 0 ? 0 : a % b;
      }
      return truth ? 1 : 0;
    }
  }
}
