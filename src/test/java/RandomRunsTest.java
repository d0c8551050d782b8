import java.util.ArrayList;
import java.util.List;
import java.util.Random;

/** Runs of calls drawn at random (always the same ones), each answered by PlainPurse, too. */
public final class RandomRunsTest {
  private static final int RUNS = 400;
  /** No step of a run makes more calls than that. */
  private static final int LONGEST_STEP = 40;
  private static final String SIGNS = "rwsmd0123456789!()|&<=>+-*/%";
  private static final String[] NAMES = {
    "field", "fieldIs", "set", "law", "lawIs", "as", "become", "force", "feed", "text", "untell",
    "evening", "settle", "night", "two", "gauge", "wrong", "weather", "rain", "days", "seed",
    "mean", "evenest", "fails", "stands", "book", "voice", "body", "sheet", "put", "move", "rains",
    "judge", "play", "image", "restore", "tell", "check", "count", "told"
  };

  private final Random random;
  private final Counted purse = new Counted();
  private final PlainPurse plain = new PlainPurse();
  private final List<String> calls = new ArrayList<>();
  private int dear;

  private RandomRunsTest(int run) {
    random = new Random(run);
  }

  public static void main(String[] args) {
    for (int run = 0; run < RUNS; run++) {
      if (!new RandomRunsTest(run).passes(run)) {
        System.exit(1);
      }
    }
    System.out.println("RandomRunsTest: " + RUNS + " runs answered alike");
  }

  private boolean passes(int run) {
    boolean alike = begin();
    while (alike && calls.size() + LONGEST_STEP <= Counted.MOST_CALLS) {
      int kind = random.nextInt(20);
      if (kind == 0) {
        alike = feedText();
      } else if (kind == 1) {
        alike = tellPays();
      } else if (kind == 2) {
        alike = putPayments();
      } else if (kind == 3 && run % 10 == 0) {
        alike = makeWhole() && same("days", 60);
      } else {
        alike = drawnCall();
      }
    }
    if (!alike) {
      System.out.println("run " + run + ": " + calls);
    }
    return alike;
  }

  private boolean begin() {
    boolean alike = true;
    int fields = random.nextInt(10);
    for (int i = 0; i < fields; i++) {
      alike = alike && same("field", below(21)) && same("set", i, 1, below(100));
    }
    int laws = random.nextInt(7);
    for (int i = 0; i < laws; i++) {
      alike = alike && same("law", below(70));
    }
    alike = alike && same("force", below(laws + 1) - 1) && makeWhole();
    for (int w = 0; w < 4; w++) {
      for (int i = 0; i < fields; i++) {
        alike = alike && same("rain", w, i, below(100));
      }
    }
    return alike;
  }

  private boolean makeWhole() {
    int a = below(17);
    int b = below(17 - a);
    int c = below(17 - a - b);
    return same("weather", 0, 0) && same("weather", 1, 0) && same("weather", 2, 0)
        && same("weather", 3, 16 - a - b - c) && same("weather", 2, c) && same("weather", 1, b)
        && same("weather", 0, a);
  }

  /** Feeds signs that often make a TEXT, as they are drawn by its grammar and then spoilt. */
  private boolean feedText() {
    int use = random.nextInt(2);
    StringBuilder b = new StringBuilder();
    drawLevel(b, 0, 0, use == 0 ? "rwsm" : "rwd");
    if (random.nextInt(3) == 0) {
      int place = random.nextInt(b.length());
      char sign = SIGNS.charAt(random.nextInt(SIGNS.length()));
      if (random.nextBoolean()) {
        b.setCharAt(place, sign);
      } else {
        b.setLength(place);
      }
    }
    boolean alike = true;
    for (int i = 0; i < b.length() && alike; i += 8) {
      int n = Math.min(8, b.length() - i);
      long word = 0;
      for (int j = 0; j < n; j++) {
        word |= (long) b.charAt(i + j) << (8 * j);
      }
      alike = same("feed", word, n);
    }
    return alike && same("text", use);
  }

  private void drawLevel(StringBuilder b, int level, int open, String names) {
    String[] joins = {"|", "&", "<=>", "+-", "*/%"};
    if (level < joins.length) {
      drawLevel(b, level + 1, open, names);
      if (random.nextInt(4) == 0) {
        b.append(joins[level].charAt(random.nextInt(joins[level].length())));
        drawLevel(b, level + 1, open, names);
      }
      return;
    }
    int kind = random.nextInt(9);
    if (kind == 0 && open < 6) {
      b.append('!');
      drawLevel(b, level, open + 1, names);
    } else if (kind == 1 && open < 6) {
      b.append('(');
      drawLevel(b, 0, open + 1, names);
      b.append(')');
    } else if (kind < 4) {
      b.append(random.nextInt(random.nextInt(5) == 0 ? 12000 : 60));
    } else {
      b.append(names.charAt(random.nextInt(names.length())));
    }
  }

  private boolean tellPays() {
    long fields = plain.call("count", 0);
    boolean alike = same("check");
    long told = fields + (random.nextInt(3) == 0 ? random.nextInt(3) - 1 : 0);
    for (int i = 0; i < told && alike; i++) {
      long pays = i < fields ? plain.call("fieldIs", i, 5) : 0;
      alike = same("tell", pays + (random.nextInt(20) == 0 ? 1 : 0));
    }
    return alike && same("check");
  }

  /** PAYMENTS from who PAYS to who is paid, in the order of FIELDS; now and then one is spoilt. */
  private boolean putPayments() {
    int fields = (int) plain.call("count", 0);
    long[] pays = new long[fields];
    for (int i = 0; i < fields; i++) {
      pays[i] = plain.call("fieldIs", i, 5);
    }
    List<Long> row = new ArrayList<>();
    for (int from = 0; from < fields; from++) {
      for (int to = 0; to < fields; to++) {
        long pennies = Math.min(pays[from], -pays[to]);
        if (pennies > 0) {
          pays[from] -= pennies;
          pays[to] += pennies;
          row.add((long) from);
          row.add((long) to);
          row.add(pennies);
        }
      }
    }
    int sheet = random.nextInt(4);
    int bits = 8 << random.nextInt(3);
    boolean alike = same("sheet", sheet, bits, row.size());
    for (int i = 0; i < row.size() && alike; i++) {
      alike = same("put", sheet, i, row.get(i) + (random.nextInt(30) == 0 ? 1 : 0));
    }
    return alike && same("judge", sheet);
  }

  private boolean drawnCall() {
    String name = NAMES[random.nextInt(NAMES.length)];
    switch (name) {
      case "field": return same(name, edgy(20));
      case "fieldIs": return same(name, edgy(7), edgy(6));
      case "set": return same(name, edgy(7), edgy(1), edgy(random.nextInt(3) == 0 ? 20 : 99));
      case "law": return same(name, edgy(69));
      case "lawIs": return same(name, edgy(4), edgy(3));
      case "as": return same(name, edgy(4), edgy(6));
      case "become": return same(name, edgy(4), edgy(69));
      case "force": return same(name, edgy(6) - 1);
      case "feed": return same(name, random.nextLong(), edgy(8));
      case "text": case "untell": return same(name, edgy(1));
      case "settle": return same(name, edgy(2));
      case "night": return same(name, edgy(7), edgy(99));
      case "gauge": return same(name, edgy(1), edgy(random.nextBoolean() ? 99 : 12));
      case "wrong": return same(name, edgy(3));
      case "weather": return same(name, edgy(3), edgy(16));
      case "rain": return same(name, edgy(3), edgy(7), edgy(99));
      case "days": return same(name, edgy(60));
      case "seed": return same(name, random.nextInt());
      case "mean": return same(name, edgy(7), edgy(1));
      case "fails":
        return same(name, edgy(7), edgy(random.nextBoolean() ? 99999 : 900), aheadDays(), edgy(1));
      case "stands": return same(name, edgy(7), aheadDays(), edgy(99));
      case "book": return book();
      case "voice":
        return same(name, edgy(4), edgy(3), random.nextBoolean() ? edgy(99) : random.nextInt());
      case "body": return same(name, edgy(7));
      case "sheet": return same(name, edgy(3), 8 * random.nextInt(5), edgy(24));
      case "put":
        return same(name, edgy(3), edgy(12), random.nextBoolean() ? edgy(3) : edgy(400));
      case "move": return same(name, edgy(3), edgy(8), edgy(3), edgy(8), edgy(8));
      case "rains": case "judge": case "play": return same(name, edgy(3));
      case "tell": return same(name, random.nextInt());
      case "count": return same(name, edgy(13));
      case "told": return same(name, edgy(6));
      default: return same(name);
    }
  }

  /** Long looks ahead cost PlainPurse dearly, so a run has few of them. */
  private int aheadDays() {
    int n = edgy(6);
    if (n < 4 || n > 6) {
      return n;
    }
    dear++;
    return dear % 6 == 0 ? n : n - 3;
  }

  private boolean book() {
    int field = edgy(7);
    int n = aheadDays();
    long pennies = plain.call("count", 0) > 0 ? plain.call("fieldIs", 0, 3) : 0;
    boolean alike = same("fieldIs", field, 3);
    for (int i = 0; i < 3 && alike; i++) {
      alike = same("book", field, n, (int) pennies + random.nextInt(9) - 4);
    }
    return alike && same("book", field, n, random.nextInt());
  }

  private int below(int n) {
    return random.nextInt(n);
  }

  /** Mostly 0 .. most, now and then just outside, or far. */
  private int edgy(int most) {
    int kind = random.nextInt(40);
    if (kind == 0) {
      return most + 1;
    }
    if (kind == 1) {
      return -1;
    }
    if (kind == 2) {
      return random.nextBoolean() ? Integer.MAX_VALUE : Integer.MIN_VALUE;
    }
    return random.nextInt(most + 1);
  }

  private boolean same(String name, long... a) {
    long want = plain.call(name, a);
    long got = purse.call(name, a);
    boolean anyNumber = name.equals("fails");
    if (!anyNumber && want < PlainPurse.LOW) {
      want = want - PlainPurse.LOW - 1000000000L;
    }
    StringBuilder b = new StringBuilder(name).append('(');
    for (int i = 0; i < a.length; i++) {
      b.append(i == 0 ? "" : ", ").append(a[i]);
    }
    b.append(") ").append(got);
    calls.add(b.toString());
    if (got != want) {
      System.out.println(b + " is answered, " + want + " is due");
    }
    return got == want;
  }
}
