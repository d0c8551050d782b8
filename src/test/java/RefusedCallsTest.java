import java.util.HashMap;
import java.util.List;
import java.util.Map;

/**
 * For each number that an act is given: the least and the greatest that is taken, the first on
 * either side that is refused; the other ERRORS, and in which order they are asked. Each refused
 * call is counted once by told(), and leaves all else as it was.
 */
public final class RefusedCallsTest extends Bench {
  private static final int EMPTY = Witness.EMPTY;
  private static final int BUSY = Witness.BUSY;
  private static final int FULL_UP = Witness.FULL_UP;
  private static final int LAST_DAY = Witness.LAST_DAY;
  private static final int BARE = Witness.BARE;
  private static final Map<Integer, List<Long>> SEEN_UNASKED = new HashMap<>();

  public static void main(String[] args) {
    runAll(RefusedCallsTest.class, 2, 41);
  }

  // ---- fields, laws

  private static void promise02Field() {
    range(0, 0, 20, EMPTY, "field", 0);
    range(0, 0, 20, BUSY, "field", 0);
    refused(FULL_UP, FULL, "field", 0);
    refused(FULL_UP, FULL, "field", 20);
    refused(FULL_UP, BEYOND, "field", -1);
    refused(FULL_UP, BEYOND, "field", 21);
  }

  private static void promise03FieldIs() {
    rangeOfFields(0, "fieldIs", 0, 0);
    range(1, 0, 6, BUSY, "fieldIs", 2, 0);
    range(1, 0, 6, FULL_UP, "fieldIs", 7, 0);
  }

  private static void promise04Set() {
    rangeOfFields(0, "set", 0, 0, 5);
    rangeOfFields(0, "set", 0, 1, 5);
    range(1, 0, 1, BUSY, "set", 0, 0, 5);
    range(2, 0, 20, BUSY, "set", 1, 0, 0);
    range(2, 0, 99, BUSY, "set", 1, 1, 0);
  }

  private static void promise05Law() {
    range(0, 0, 69, EMPTY, "law", 0);
    range(0, 0, 69, BUSY, "law", 0);
    refused(FULL_UP, FULL, "law", 0);
    refused(FULL_UP, FULL, "law", 69);
    refused(FULL_UP, BEYOND, "law", -1);
    refused(FULL_UP, BEYOND, "law", 70);
  }

  private static void promise06LawIs() {
    rangeOfLaws(0, "lawIs", 0, 0);
    range(1, 0, 3, BUSY, "lawIs", 1, 0);
    range(1, 0, 3, FULL_UP, "lawIs", 4, 0);
  }

  private static void promise07As() {
    rangeOfLaws(0, "as", 0, 0);
    int[] own = {0, 1, 4};
    for (int kind : own) {
      taken(BUSY, "as", 2, kind);
    }
    int[] others = {2, 3, 5, 6};
    for (int kind : others) {
      refused(BUSY, KIND, "as", 2, kind);
      refused(BUSY, BEYOND, "as", 3, kind);
    }
    int[] none = {-1, 7, DEEP, FAR};
    for (int kind : none) {
      refused(BUSY, BEYOND, "as", 2, kind);
    }
  }

  private static void promise08Become() {
    rangeOfLaws(0, "become", 0, 7);
    range(1, 0, 69, BUSY, "become", 1, 0);
    range(1, 0, 69, FULL_UP, "become", 4, 0);
  }

  private static void promise09Force() {
    range(0, -1, -1, EMPTY, "force", -1);
    range(0, -1, 2, BUSY, "force", 0);
    range(0, -1, 4, FULL_UP, "force", 0);
  }

  // ---- texts

  private static void promise10Feed() {
    range(1, 1, 8, EMPTY, "feed", -1, 1);
    range(1, 1, 8, BUSY, "feed", 'r', 1);
    refused(FULL_UP, FULL, "feed", 'r', 1);
    refused(FULL_UP, FULL, "feed", 'r', 8);
    refused(FULL_UP, BEYOND, "feed", 'r', 0);
    refused(FULL_UP, BEYOND, "feed", 'r', 9);
  }

  private static void promise11Text() {
    range(0, 0, 1, EMPTY, "text", 0);
    range(0, 0, 1, BUSY, "text", 0);
    range(0, 0, 1, FULL_UP, "text", 0);
  }

  private static void promise12Untell() {
    range(0, 0, 1, EMPTY, "untell", 0);
    range(0, 0, 1, BUSY, "untell", 0);
  }

  // ---- evenings, settling

  private static void promise13Evening() {
    taken(EMPTY, "evening");
    taken(BUSY, "evening");
    refused(LAST_DAY, STATE, "evening");
  }

  private static void promise14Settle() {
    for (int state : Witness.STATES) {
      range(0, 0, 2, state, "settle", 0);
    }
  }

  private static void promise15Night() {
    rangeOfFields(0, "night", 0, 5);
    range(1, 0, 99, BUSY, "night", 1, 0);
  }

  private static void promise16Two() {
    refused(EMPTY, NONE, "two");
    refused(BARE, NONE, "two");
    taken(LAST_DAY, "two");
    taken(FULL_UP, "two");
  }

  // ---- gauges, weather

  private static void promise17Gauge() {
    range(0, 0, 1, BUSY, "gauge", 0, 5);
    range(1, 0, 99, BUSY, "gauge", 0, 5);
    range(1, 0, 99, BUSY, "gauge", 1, 5);
  }

  private static void promise18Wrong() {
    for (int state : Witness.STATES) {
      range(0, 0, 3, state, "wrong", 0);
    }
  }

  private static void promise19Weather() {
    range(0, 0, 3, BUSY, "weather", 0, 0);
    for (int w = 0; w < 4; w++) {
      range(1, 0, 16, EMPTY, "weather", w, 0);
    }
    taken(BUSY, "weather", 0, 8);
    refused(BUSY, STATE, "weather", 0, 9);
    refused(BUSY, STATE, "weather", 3, 2);
    refused(BUSY, STATE, "weather", 3, 16);
    taken(FULL_UP, "weather", 0, 7);
    refused(FULL_UP, STATE, "weather", 0, 8);
    refused(BUSY, BEYOND, "weather", 0, 17);
    refused(BUSY, BEYOND, "weather", 4, 16);
    refused(BUSY, BEYOND, "weather", 0, FAR);
  }

  private static void promise20Rain() {
    range(0, 0, 3, BUSY, "rain", 0, 1, 5);
    rangeOfFields(1, "rain", 3, 0, 5);
    range(2, 0, 99, BUSY, "rain", 1, 1, 0);
  }

  private static void promise21Days() {
    range(0, 1, 60, BUSY, "days", 1);
    int[] notWhole = {EMPTY, FULL_UP, BARE};
    for (int state : notWhole) {
      refused(state, STATE, "days", 1);
      refused(state, STATE, "days", 60);
      refused(state, BEYOND, "days", 0);
      refused(state, BEYOND, "days", 61);
    }
    refused(LAST_DAY, STATE, "days", 1);
    refused(LAST_DAY, STATE, "days", 60);
    refused(LAST_DAY, BEYOND, "days", 0);
    refused(LAST_DAY, BEYOND, "days", 61);
    refused(LAST_DAY, BEYOND, "days", FAR);
  }

  private static void promise22Seed() {
    int[] any = {DEEP, LOW - 6, LOW, -1, 0, 1, FAR};
    for (int v : any) {
      taken(BUSY, "seed", v);
    }
  }

  private static void promise23Mean() {
    rangeOfFields(0, "mean", 0, 0);
    range(1, 0, 1, BUSY, "mean", 2, 0);
    whole("mean", new long[] {0, 0}, new long[] {8, 0}, new long[] {0, 2}, new long[] {-1, -1});
  }

  private static void promise24Evenest() {
    refused(EMPTY, NONE, "evenest");
    refused(FULL_UP, STATE, "evenest");
    refused(BARE, STATE, "evenest");
    taken(BUSY, "evenest");
    taken(LAST_DAY, "evenest");
  }

  private static void promise25Fails() {
    rangeOfFields(0, "fails", 0, 5, 2, 0);
    range(1, 0, 99999, BUSY, "fails", 1, 0, 2, 0);
    range(2, 1, 6, BUSY, "fails", 1, 5, 1, 0);
    range(3, 0, 1, BUSY, "fails", 1, 5, 2, 0);
    whole("fails", new long[] {0, 5, 2, 0}, new long[] {8, 5, 2, 0}, new long[] {0, -1, 2, 0},
        new long[] {0, 100000, 2, 0}, new long[] {0, 5, 0, 0}, new long[] {0, 5, 7, 0},
        new long[] {0, 5, 2, 2}, new long[] {0, 5, 2, -1});
  }

  private static void promise26Stands() {
    rangeOfFields(0, "stands", 0, 2, 5);
    range(1, 1, 6, BUSY, "stands", 1, 1, 5);
    range(2, 1, 99, BUSY, "stands", 1, 2, 5);
    whole("stands", new long[] {0, 2, 5}, new long[] {8, 2, 5}, new long[] {0, 0, 5},
        new long[] {0, 7, 5}, new long[] {0, 2, 0}, new long[] {0, 2, 100});
  }

  /** book() asks for no WHOLE WEATHER, and takes any PENNIES. */
  private static void promise27Book() {
    rangeOfFields(0, "book", 0, 1, 0);
    range(1, 0, 6, BUSY, "book", 1, 0, 0);
    range(1, 0, 6, BARE, "book", 0, 0, 0);
    taken(BUSY, "book", 0, 2, DEEP);
    taken(BUSY, "book", 0, 2, FAR);
  }

  // ---- voices, sheets

  private static void promise28Voice() {
    rangeOfLaws(0, "voice", 0, 0, 7);
    range(1, 0, 3, BUSY, "voice", 2, 0, 7);
    range(1, 0, 3, FULL_UP, "voice", 4, 0, 7);
    // LAW 0 has m 0: it would be PARTED.
    refused(FULL_UP, BEYOND, "voice", 0, 4, 7);
    refused(FULL_UP, BEYOND, "voice", 0, -1, 7);
  }

  /** The twin's TRACE is that of another LAW, which begins the same BODY and isn't PARTED. */
  private static void promise28VoiceThatIsParted() {
    Counted asked = Witness.made(FULL_UP);
    long[] before = Witness.errors(asked);
    due(asked.call("voice", 0, 3, 7), PARTED);
    before[5]++;
    dues(Witness.errors(asked), before);
    Counted twin = Witness.made(FULL_UP);
    due(twin.call("voice", 2, 3, 7), 2);
    need(Witness.seen(twin).equals(Witness.seen(asked)), "PARTED changed more than THE TRACE");
  }

  private static void promise29Body() {
    int[] none = {-1, 0, 29, 30, DEEP, FAR};
    for (int i : none) {
      refused(EMPTY, NONE, "body", i);
    }
    for (int i = 0; i < 6; i++) {
      taken(FULL_UP, "body", i);
    }
    int[] behind = {-1, 6, 29, 30, DEEP, FAR};
    for (int i : behind) {
      refused(FULL_UP, NONE, "body", i);
    }
  }

  private static void promise30Sheet() {
    range(0, 0, 3, BUSY, "sheet", 0, 8, 3);
    range(0, 0, 3, EMPTY, "sheet", 0, 0, 3);
    int[] unlike = {-32, -8, -1, 1, 4, 7, 9, 15, 17, 24, 31, 33, 64, DEEP, FAR};
    for (int bits : unlike) {
      refused(BUSY, BEYOND, "sheet", 1, bits, 2);
      refused(BUSY, BEYOND, "sheet", 1, bits, -1);
    }
    for (int bits = 8; bits <= 32; bits *= 2) {
      taken(BUSY, "sheet", 1, bits, 0);
      taken(BUSY, "sheet", 1, bits, 24);
      refused(BUSY, BEYOND, "sheet", 1, bits, 25);
      refused(BUSY, BEYOND, "sheet", 1, bits, FAR);
      refused(BUSY, STATE, "sheet", 1, bits, -1);
      refused(BUSY, STATE, "sheet", 1, bits, DEEP);
      refused(BUSY, BEYOND, "sheet", 4, bits, -1);
      refused(BUSY, BEYOND, "sheet", -1, bits, -1);
    }
    int[] any = {DEEP, -1, 0, 24, 25, FAR};
    for (int n : any) {
      taken(BUSY, "sheet", 1, 0, n);
    }
  }

  private static void promise31Put() {
    int[] noSheet = {-1, 4, DEEP, FAR};
    for (int sheet : noSheet) {
      refused(BUSY, BEYOND, "put", sheet, 0, 1);
      refused(EMPTY, BEYOND, "put", sheet, -1, 1);
    }
    int[] places = {-1, 0, 23, 24, DEEP, FAR};
    for (int i : places) {
      refused(BUSY, NONE, "put", 3, i, 1);
      refused(EMPTY, NONE, "put", 0, i, 1);
      refused(FULL_UP, NONE, "put", 2, i, 1);
      refused(BUSY, BEYOND, "put", 2, i, 1);
    }
    range(1, 0, 2, BUSY, "put", 0, 0, 9);
    range(1, 0, 5, BUSY, "put", 1, 0, 9);
    range(1, 0, 23, FULL_UP, "put", 1, 0, 9);
    range(1, 0, 0, FULL_UP, "put", 3, 0, 9);
  }

  private static void promise32MoveOfSheets() {
    int[] noSheet = {-1, 4, DEEP, FAR};
    for (int sheet : noSheet) {
      refused(BUSY, BEYOND, "move", sheet, 0, 0, 0, 1);
      refused(BUSY, BEYOND, "move", 0, 0, sheet, 0, 1);
      refused(BUSY, BEYOND, "move", sheet, 0, 3, 0, -1);
      refused(BUSY, BEYOND, "move", 3, 0, sheet, 0, -1);
    }
    int[] any = {-1, 0, 99};
    for (int n : any) {
      refused(EMPTY, NONE, "move", 0, 0, 0, 0, n);
      refused(BUSY, NONE, "move", 0, 0, 3, 0, n);
      refused(BUSY, NONE, "move", 3, 0, 0, 0, n);
      refused(BUSY, NONE, "move", 3, n, 3, n, 0);
      refused(BUSY, KIND, "move", 0, 0, 1, 0, n);
      refused(BUSY, KIND, "move", 1, n, 0, n, 1);
      refused(BUSY, KIND, "move", 0, 0, 2, 0, n);
      refused(BUSY, KIND, "move", 2, 0, 1, 0, n);
    }
    taken(FULL_UP, "move", 1, 0, 1, 0, 24);
  }

  private static void promise32MoveOfNumbers() {
    for (int n = 0; n <= 3; n++) {
      range(1, 0, 3 - n, BUSY, "move", 0, 0, 0, 0, n);
      range(3, 0, 3 - n, BUSY, "move", 0, 0, 0, 0, n);
      range(4, 0, 3 - n, BUSY, "move", 0, n, 0, 0, 0);
      range(4, 0, 3 - n, BUSY, "move", 0, 0, 0, n, 0);
    }
    range(4, 0, 24, FULL_UP, "move", 1, 0, 1, 0, 0);
    range(1, 0, 0, BUSY, "move", 2, 0, 2, 0, 0);
    range(4, 0, 0, BUSY, "move", 2, 0, 2, 0, 0);
    int[][] wraps = {{1, 0, FAR}, {0, 1, FAR}, {FAR, 0, 1}, {0, FAR, 1}, {FAR, FAR, FAR},
        {2, 2, FAR - 1}, {DEEP, 0, DEEP}, {-1, 0, 1}, {0, -1, 1}};
    for (int[] w : wraps) {
      refused(BUSY, BEYOND, "move", 0, w[0], 0, w[1], w[2]);
    }
  }

  private static void promise33Rains() {
    ofSheet("rains");
  }

  private static void promise34Judge() {
    ofSheet("judge");
  }

  private static void promise35Play() {
    ofSheet("play");
    taken(LAST_DAY, "play", 0);
  }

  // ---- images, what is told

  private static void promise36Image() {
    for (int state : Witness.STATES) {
      taken(state, "image");
    }
  }

  private static void promise37Restore() {
    refused(EMPTY, NONE, "restore");
    refused(BARE, NONE, "restore");
    taken(BUSY, "restore");
    taken(LAST_DAY, "restore");
  }

  private static void promise38Tell() {
    int[] any = {DEEP, LOW - 4, -1, 0, FAR};
    for (int v : any) {
      taken(EMPTY, "tell", v);
      taken(BUSY, "tell", v);
      refused(FULL_UP, FULL, "tell", v);
    }
  }

  private static void promise39Check() {
    for (int state : Witness.STATES) {
      taken(state, "check");
    }
  }

  private static void promise40Count() {
    for (int state : Witness.STATES) {
      range(0, 0, 13, state, "count", 0);
    }
  }

  private static void promise41Told() {
    for (int state : Witness.STATES) {
      range(0, 1, 6, state, "told", 1);
    }
  }

  // ---- what the tests share

  /** A call that is refused in such a state. */
  private static void refused(int state, int error, String name, long... a) {
    Counted asked = Witness.made(state);
    long[] before = Witness.errors(asked);
    long got = asked.call(name, a);
    due(got, name.equals("fails") ? error - LOW + LONG_LOW : error);
    before[LOW - error - 1]++;
    dues(Witness.errors(asked), before);
    List<Long> want =
        SEEN_UNASKED.computeIfAbsent(state, s -> Witness.seen(Witness.made(s)));
    List<Long> seen = Witness.seen(asked);
    need(want.equals(seen), name + " in state " + state + " left " + seen + ", not " + want);
  }

  /** A call that is no ERROR in such a state. */
  private static void taken(int state, String name, long... a) {
    Counted x = Witness.made(state);
    long[] before = Witness.errors(x);
    x.call(name, a);
    dues(Witness.errors(x), before);
  }

  /** The number at a place is taken from low to high; first and far outside it is BEYOND. */
  private static void range(int place, long low, long high, int state, String name, long... a) {
    taken(state, name, with(a, place, low));
    taken(state, name, with(a, place, high));
    long[] outside = {low - 1, high + 1, DEEP, FAR};
    for (long v : outside) {
      refused(state, BEYOND, name, with(a, place, v));
    }
  }

  private static long[] with(long[] a, int place, long v) {
    long[] b = a.clone();
    b[place] = v;
    return b;
  }

  /** Without FIELDS there is none; with three they are 0 .. 2. */
  private static void rangeOfFields(int place, String name, long... a) {
    refused(EMPTY, BEYOND, name, with(a, place, 0));
    refused(EMPTY, BEYOND, name, with(a, place, -1));
    range(place, 0, 2, BUSY, name, a);
  }

  /** Without LAWS there is none; with three they are 0 .. 2, with five 0 .. 4. */
  private static void rangeOfLaws(int place, String name, long... a) {
    refused(EMPTY, BEYOND, name, with(a, place, 0));
    refused(EMPTY, BEYOND, name, with(a, place, -1));
    range(place, 0, 2, BUSY, name, a);
    range(place, 0, 4, FULL_UP, name, a);
  }

  /** STATE, as WEATHER is not WHOLE, is asked behind each BEYOND. */
  private static void whole(String name, long[] good, long[]... beyond) {
    int[] notWhole = {FULL_UP, BARE};
    for (int state : notWhole) {
      refused(state, STATE, name, good);
      for (long[] a : beyond) {
        refused(state, BEYOND, name, a);
      }
    }
  }

  private static void ofSheet(String name) {
    for (int sheet = 0; sheet < 3; sheet++) {
      taken(BUSY, name, sheet);
    }
    taken(FULL_UP, name, 3);
    refused(BUSY, NONE, name, 3);
    refused(FULL_UP, NONE, name, 0);
    refused(FULL_UP, NONE, name, 2);
    for (int sheet = 0; sheet < 4; sheet++) {
      refused(EMPTY, NONE, name, sheet);
    }
    int[] none = {-1, 4, DEEP, FAR};
    for (int sheet : none) {
      refused(BUSY, BEYOND, name, sheet);
      refused(EMPTY, BEYOND, name, sheet);
    }
  }
}
