/**
 * Who was rained on pays who wasn't: FIELDS along a ridge, LAWS by which each owes for its RAIN,
 * what each pays so that all is nought together, and what weather by chances makes of it.
 * Words in capitals are those of DOC.md; it says what every public method answers.
 */
public final class RainPurse {
  private static final int LOW = -1000000000;
  private static final long LONG_LOW = -1000000000000L;
  private static final int BEYOND = 1;
  private static final int NONE = 2;
  private static final int STATE = 3;
  private static final int FULL = 4;
  private static final int KIND = 5;
  private static final int PARTED = 6;

  private static final int MOST_FIELDS = 8;
  private static final int MOST_WORTH = 20;
  private static final int MOST_RAIN = 99;
  private static final int MOST_PENNIES = 999999999;
  private static final int MOST_PURSE = 99999;
  private static final int MOST_LAWS = 5;
  private static final int MOST_KM = 69;
  private static final int LAST_DAY = 9999;
  private static final int WEEK = 7;
  private static final int WEATHERS = 4;
  private static final int CHANCES = 16;
  private static final int MOST_AHEAD = 6;
  private static final int MOST_DRAWN = 60;
  private static final int MOST_GAUGE = 99;
  private static final int TAPE_ROOM = 60;
  private static final int MOST_OPEN = 5;
  private static final int MOST_DUES = 999;
  private static final int MOST_CROP = 9999;
  private static final int SHEETS = 4;
  private static final int MOST_NUMBERS = 24;
  private static final int TRACE_ROOM = 30;
  private static final int UNSETTLED = 100;
  private static final int NO_TEXT = -10;

  private static final int LAW_KIND = 0;
  private static final int INCH_KIND = 1;
  private static final int WORTHY_KIND = 2;
  private static final int TURN_KIND = 3;
  private static final int LONG_KIND = 4;
  private static final int STORE_KIND = 5;
  private static final int TOLD_KIND = 6;
  /** The KIND that each KIND is under; -1: none. */
  private static final int[] KIND_ABOVE = {-1, 0, 0, 1, 1, 2, 0};

  private static final int RAINS_VOICE = 0;
  private static final int OWES_VOICE = 1;
  private static final int PAYS_VOICE = 2;
  private static final int PARTS_VOICE = 3;
  private static final int VOICES = 4;
  /** The BODY of each KIND (a row each) for each VOICE; 0: the KIND has none. */
  private static final int[] BODIES = {
    10, 11, 12, 13,
    20, 0, 0, 21,
    0, 30, 0, 0,
    40, 0, 41, 0,
    0, 0, 50, 0,
    0, 60, 0, 0,
    70, 71, 0, 0
  };
  private static final int DEEPEST = 40;

  private static final int DUES_USE = 0;
  private static final int CROP_USE = 1;
  /** How loosely each level of a TEXT joins: 0 is T, 4 is P; below stands Q. */
  private static final int COMPARE_LEVEL = 2;
  private static final int LEVELS = 5;

  private final State now = new State();
  private State kept;
  private int imagesMade;
  private final int[] errors = new int[PARTED + 1];
  private final Sheet[] sheets = new Sheet[SHEETS];
  private final Voices voices = new Voices();
  private final Reader reader = new Reader();
  private final Settling settling = new Settling();
  private final Gauges gauges = new Gauges();
  private final int[] row = new int[MOST_FIELDS];
  private final long[] paid = new long[MOST_FIELDS];
  private Forecast forecast;

  public RainPurse() {
    for (int i = 0; i < SHEETS; i++) {
      sheets[i] = new Sheet();
    }
  }

  // ---- fields, laws

  public int field(int worth) {
    if (!within(worth, 0, MOST_WORTH)) {
      return error(BEYOND);
    }
    if (now.size >= MOST_FIELDS) {
      return error(FULL);
    }
    return now.newField(worth);
  }

  public int fieldIs(int field, int what) {
    if (!now.hasField(field)) {
      return error(BEYOND);
    }
    switch (what) {
      case 0:
        return now.worth[field];
      case 1:
        return now.rain[field];
      case 2:
        return now.sum[field];
      case 3:
        return now.pennies[field];
      case 4:
        return now.owesToday(now.force, field);
      case 5:
        now.paysToday(row);
        return row[field];
      case 6:
        return now.cropOf(field);
      default:
        return error(BEYOND);
    }
  }

  public int set(int field, int what, int v) {
    boolean worthy = what == 0 && within(v, 0, MOST_WORTH);
    boolean rainy = what == 1 && within(v, 0, MOST_RAIN);
    if (!now.hasField(field) || !worthy && !rainy) {
      return error(BEYOND);
    }
    int[] changed = worthy ? now.worth : now.rain;
    int was = changed[field];
    changed[field] = v;
    return was;
  }

  public int law(int km) {
    if (!within(km, 0, MOST_KM)) {
      return error(BEYOND);
    }
    if (!now.laws.add(km)) {
      return error(FULL);
    }
    return now.laws.size() - 1;
  }

  public int lawIs(int law, int what) {
    if (!now.laws.has(law)) {
      return error(BEYOND);
    }
    switch (what) {
      case 0:
        return now.laws.at(law) / 10;
      case 1:
        return now.laws.at(law) % 10;
      case 2:
        return law == now.force ? 1 : 0;
      case 3:
        return now.allOwe(law);
      default:
        return error(BEYOND);
    }
  }

  public int as(int law, int kind) {
    if (!now.laws.has(law) || !within(kind, LAW_KIND, TOLD_KIND)) {
      return error(BEYOND);
    }
    int km = now.laws.at(law);
    if (!isUnder(km / 10, kind)) {
      return error(KIND);
    }
    return km % 10;
  }

  public int become(int law, int km) {
    if (!now.laws.has(law) || !within(km, 0, MOST_KM)) {
      return error(BEYOND);
    }
    int was = now.laws.at(law);
    now.laws.change(law, km);
    return was;
  }

  public int force(int law) {
    if (law != -1 && !now.laws.has(law)) {
      return error(BEYOND);
    }
    int was = now.force;
    now.force = law;
    return was;
  }

  // ---- texts

  public int feed(long word, int n) {
    if (!within(n, 1, 8)) {
      return error(BEYOND);
    }
    if (now.tape.size() + n > TAPE_ROOM) {
      return error(FULL);
    }
    for (int i = 0; i < n; i++) {
      now.tape.add((int) (word >>> 8 * i & 255L));
    }
    return now.tape.size();
  }

  public int text(int use) {
    if (!within(use, DUES_USE, CROP_USE)) {
      return error(BEYOND);
    }
    int fault = reader.faultOf(now.tape, use);
    now.tape.clear();
    if (fault >= 0) {
      return NO_TEXT - fault;
    }
    now.textOf(use).copyFrom(reader.draft);
    return 1;
  }

  public int untell(int use) {
    if (!within(use, DUES_USE, CROP_USE)) {
      return error(BEYOND);
    }
    Text text = now.textOf(use);
    int was = text.isTold() ? 1 : 0;
    text.clear();
    return was;
  }

  // ---- evenings, settling

  public int evening() {
    if (now.day >= LAST_DAY) {
      return error(STATE);
    }
    return now.endDay();
  }

  public int settle(int what) {
    if (!within(what, 0, 2)) {
      return error(BEYOND);
    }
    now.paysToday(row);
    settling.workOut(row, now.size);
    switch (what) {
      case 0:
        return Integer.bitCount(settling.whole) - settling.most;
      case 1:
        return settling.most;
      default:
        return settling.first;
    }
  }

  public int night(int field, int less) {
    if (!now.hasField(field) || !within(less, 0, MOST_RAIN)) {
      return error(BEYOND);
    }
    int read = Math.max(0, now.rain[field] - less);
    int owedLess = now.owesToday(now.force, field)
        - now.owes(now.force, field, read, now.sum[field]);
    return owedLess * (now.size - 1);
  }

  public int two() {
    if (now.size < 2) {
      return error(NONE);
    }
    return now.nearestTwo(row);
  }

  // ---- gauges

  public int gauge(int what, int v) {
    if (!within(what, 0, 1) || !within(v, 0, MOST_GAUGE)) {
      return error(BEYOND);
    }
    int was = what == 0 ? now.off : now.spread;
    if (what == 0) {
      now.off = v;
    } else {
      now.spread = v;
    }
    return was;
  }

  public int wrong(int what) {
    if (!within(what, 0, 3)) {
      return error(BEYOND);
    }
    gauges.workOut(now);
    switch (what) {
      case 0:
        return gauges.wrongly;
      case 1:
        return gauges.least;
      case 2:
        return gauges.surely;
      default:
        return gauges.maybe;
    }
  }

  // ---- weather

  public int weather(int w, int days) {
    if (!within(w, 0, WEATHERS - 1) || !within(days, 0, CHANCES)) {
      return error(BEYOND);
    }
    int was = now.comes[w];
    if (now.allChances() - was + days > CHANCES) {
      return error(STATE);
    }
    now.comes[w] = days;
    return was;
  }

  public int rain(int w, int field, int v) {
    if (!within(w, 0, WEATHERS - 1) || !now.hasField(field) || !within(v, 0, MOST_RAIN)) {
      return error(BEYOND);
    }
    int was = now.skies[w][field];
    now.skies[w][field] = v;
    return was;
  }

  public int days(int n) {
    if (!within(n, 1, MOST_DRAWN)) {
      return error(BEYOND);
    }
    if (!now.isWhole() || now.day + n > LAST_DAY) {
      return error(STATE);
    }
    for (int i = 0; i < n; i++) {
      now.dayUnder(now.drawnWeather());
    }
    return now.size > 0 ? now.pennies[0] : 0;
  }

  public int seed(int v) {
    int was = now.z;
    now.z = v;
    return was;
  }

  public int mean(int field, int part) {
    if (!now.hasField(field) || !within(part, 0, 1)) {
      return error(BEYOND);
    }
    if (!now.isWhole()) {
      return error(STATE);
    }
    now.meansBy(now.force, row);
    return (int) inLowestTerms(row[field], CHANCES, part);
  }

  public int evenest() {
    if (now.laws.size() == 0) {
      return error(NONE);
    }
    if (!now.isWhole()) {
      return error(STATE);
    }
    return now.evenestLaw(row);
  }

  public long fails(int field, int b, int n, int part) {
    if (!now.hasField(field) || !within(b, 0, MOST_PURSE)
        || !within(n, 1, MOST_AHEAD) || !within(part, 0, 1)) {
      return longError(BEYOND);
    }
    if (!now.isWhole()) {
      return longError(STATE);
    }
    Forecast ahead = madeForecast();
    ahead.look(now, field, n);
    return inLowestTerms(ahead.failing(b), ahead.allWeight(), part);
  }

  public int stands(int field, int n, int k) {
    if (!now.hasField(field) || !within(n, 1, MOST_AHEAD) || !within(k, 1, 99)) {
      return error(BEYOND);
    }
    if (!now.isWhole()) {
      return error(STATE);
    }
    Forecast ahead = madeForecast();
    ahead.look(now, field, n);
    int purse = ahead.leastPurse(k);
    return purse > MOST_PURSE ? error(NONE) : purse;
  }

  public int book(int field, int n, int pennies) {
    if (!now.hasField(field) || !within(n, 0, MOST_AHEAD)) {
      return error(BEYOND);
    }
    return madeForecast().rowsTo(now, field, n, pennies);
  }

  // ---- voices, sheets, images, what is told

  public int voice(int law, int voice, int x) {
    if (!now.laws.has(law) || !within(voice, 0, VOICES - 1)) {
      return error(BEYOND);
    }
    int answer = voices.ask(law, now.laws.at(law), voice, x);
    return voices.parted ? error(PARTED) : answer;
  }

  public int body(int i) {
    return voices.trace.has(i) ? voices.trace.at(i) : error(NONE);
  }

  public int sheet(int sheet, int bits, int n) {
    boolean known = bits == 0 || bits == 8 || bits == 16 || bits == 32;
    if (!within(sheet, 0, SHEETS - 1) || !known) {
      return error(BEYOND);
    }
    if (bits != 0 && n < 0) {
      return error(STATE);
    }
    if (bits != 0 && n > MOST_NUMBERS) {
      return error(BEYOND);
    }
    sheets[sheet].renew(bits, bits == 0 ? 0 : n);
    return 1;
  }

  public int put(int sheet, int i, int v) {
    int missing = errorOfSheet(sheet);
    if (missing != 0) {
      return error(missing);
    }
    if (!within(i, 0, sheets[sheet].size - 1)) {
      return error(BEYOND);
    }
    sheets[sheet].change(i, v);
    return 1;
  }

  public int move(int sheet, int i, int other, int j, int n) {
    if (!within(sheet, 0, SHEETS - 1) || !within(other, 0, SHEETS - 1)) {
      return error(BEYOND);
    }
    Sheet from = sheets[sheet];
    Sheet to = sheets[other];
    if (from.bits == 0 || to.bits == 0) {
      return error(NONE);
    }
    if (from.bits != to.bits) {
      return error(KIND);
    }
    if (!from.holds(i, n) || !to.holds(j, n)) {
      return error(BEYOND);
    }
    System.arraycopy(from.numbers, i, to.numbers, j, n);
    return n;
  }

  public int rains(int sheet) {
    int missing = errorOfSheet(sheet);
    if (missing != 0) {
      return error(missing);
    }
    Sheet told = sheets[sheet];
    int came = 0;
    while (came < told.size && now.hasField(came) && within(told.at(came), 0, MOST_RAIN)) {
      now.rain[came] = told.at(came);
      came++;
    }
    return came;
  }

  public int judge(int sheet) {
    int missing = errorOfSheet(sheet);
    if (missing != 0) {
      return error(missing);
    }
    Sheet told = sheets[sheet];
    for (int i = 0; i < MOST_FIELDS; i++) {
      paid[i] = 0;
    }
    int good = 0;
    while (good * 3 < told.size && takePayment(told, good * 3)) {
      good++;
    }
    boolean all = good * 3 >= told.size;
    return all && !isSettled() ? good + UNSETTLED : good;
  }

  public int play(int sheet) {
    int missing = errorOfSheet(sheet);
    if (missing != 0) {
      return error(missing);
    }
    Sheet told = sheets[sheet];
    int gone = 0;
    while (gone < told.size && within(told.at(gone), 0, WEATHERS - 1) && now.day < LAST_DAY) {
      now.dayUnder(told.at(gone));
      gone++;
    }
    return gone;
  }

  public int image() {
    if (kept == null) {
      kept = new State();
    }
    kept.copyFrom(now);
    imagesMade++;
    return imagesMade;
  }

  public int restore() {
    if (kept == null) {
      return error(NONE);
    }
    now.copyFrom(kept);
    return now.day;
  }

  public int tell(int v) {
    if (!now.waiting.add(v)) {
      return error(FULL);
    }
    return now.waiting.size();
  }

  public int check() {
    now.paysToday(row);
    int waits = now.waiting.size();
    int most = Math.max(waits, now.size);
    int unlike = 0;
    for (int i = 0; i < most && unlike == 0; i++) {
      if (i >= waits || i >= now.size || now.waiting.at(i) != row[i]) {
        unlike = 1 + i;
      }
    }
    now.waiting.clear();
    return unlike;
  }

  public int count(int what) {
    switch (what) {
      case 0:
        return now.size;
      case 1:
        return now.laws.size();
      case 2:
        return now.day;
      case 3:
        return now.force;
      case 4:
        return now.off;
      case 5:
        return now.spread;
      case 6:
        return now.tape.size();
      case 7:
        return now.waiting.size();
      case 8:
        return voices.trace.size();
      case 9:
        return now.z;
      default:
        return within(what, 10, 9 + WEATHERS) ? now.comes[what - 10] : error(BEYOND);
    }
  }

  public int told(int k) {
    return within(k, BEYOND, PARTED) ? errors[k] : error(BEYOND);
  }

  // ---- what the calls share

  private int error(int k) {
    noteError(k);
    return LOW - k;
  }

  private long longError(int k) {
    noteError(k);
    return LONG_LOW - k;
  }

  private void noteError(int k) {
    if (within(k, BEYOND, PARTED)) {
      errors[k]++;
    }
  }

  /** 0: there is such a SHEET; else which ERROR it is. */
  private int errorOfSheet(int sheet) {
    if (!within(sheet, 0, SHEETS - 1)) {
      return BEYOND;
    }
    return sheets[sheet].bits == 0 ? NONE : 0;
  }

  /** Takes the PAYMENT that begins at a place of a SHEET, if it is one. */
  private boolean takePayment(Sheet told, int place) {
    if (!told.holds(place, 3)) {
      return false;
    }
    int from = told.at(place);
    int to = told.at(place + 1);
    int pennies = told.at(place + 2);
    if (!now.hasField(from) || !now.hasField(to) || from == to || pennies <= 0) {
      return false;
    }
    paid[from] += pennies;
    paid[to] -= pennies;
    return true;
  }

  private boolean isSettled() {
    now.paysToday(row);
    boolean settled = true;
    for (int i = 0; i < now.size; i++) {
      settled = settled && paid[i] == row[i];
    }
    return settled;
  }

  /** Its rows are long, and most objects never look ahead: it is made when first asked for. */
  private Forecast madeForecast() {
    if (forecast == null) {
      forecast = new Forecast();
    }
    return forecast;
  }

  private static boolean within(int v, int low, int high) {
    return v >= low && v <= high;
  }

  private static int held(int v, int most) {
    return Math.max(0 - most, Math.min(most, v));
  }

  private static boolean isUnder(int kind, int above) {
    int k = kind;
    for (int i = 0; i < KIND_ABOVE.length && within(k, LAW_KIND, TOLD_KIND); i++) {
      if (k == above) {
        return true;
      }
      k = KIND_ABOVE[k];
    }
    return false;
  }

  private static long inLowestTerms(long above, long below, int part) {
    long divisor = Math.max(1L, commonDivisor(Math.abs(above), below));
    return (part == 0 ? above : below) / divisor;
  }

  private static long commonDivisor(long a, long b) {
    long x = a;
    long y = b;
    // Euclid's steps on numbers of 64 bits are fewer than a hundred.
    for (int i = 0; i < 100 && y != 0; i++) {
      long rest = x % y;
      x = y;
      y = rest;
    }
    return x;
  }

  /** Numbers in a row that grows up to its room. */
  private static final class Row {
    private final int[] numbers;
    private int size;

    Row(int room) {
      numbers = new int[Math.max(0, room)];
    }

    int size() {
      return size;
    }

    boolean has(int i) {
      return i >= 0 && i < size;
    }

    int at(int i) {
      return has(i) ? numbers[i] : 0;
    }

    boolean add(int v) {
      if (size >= numbers.length) {
        return false;
      }
      numbers[size] = v;
      size++;
      return true;
    }

    void change(int i, int v) {
      if (has(i)) {
        numbers[i] = v;
      }
    }

    void clear() {
      size = 0;
    }

    void copyFrom(Row other) {
      size = Math.min(other.size, numbers.length);
      System.arraycopy(other.numbers, 0, numbers, 0, size);
    }
  }

  /**
   * A TEXT as it is worked out: an operator stands behind what it joins. A step from 0 on is a
   * NUMBER, one below 0 is a NAME's or an operator's byte, less than 0.
   */
  private static final class Text {
    private final int[] steps = new int[TAPE_ROOM];
    private final int[] stack = new int[TAPE_ROOM];
    private int size;

    boolean isTold() {
      return size > 0;
    }

    void clear() {
      size = 0;
    }

    void copyFrom(Text other) {
      size = other.size;
      System.arraycopy(other.steps, 0, steps, 0, TAPE_ROOM);
    }

    void addNumber(int v) {
      if (size < TAPE_ROOM) {
        steps[size] = v;
        size++;
      }
    }

    void addSign(int sign) {
      addNumber(0 - sign);
    }

    boolean names(int sign) {
      boolean found = false;
      for (int i = 0; i < size; i++) {
        found = found || steps[i] == 0 - sign;
      }
      return found;
    }

    /** The last NAME is m or d: no USE has both. */
    int workOut(int r, int w, int s, int last) {
      int high = 0;
      for (int i = 0; i < size; i++) {
        int step = steps[i];
        int value = step;
        switch (0 - step) {
          case 'r':
            value = r;
            break;
          case 'w':
            value = w;
            break;
          case 's':
            value = s;
            break;
          case 'm':
          case 'd':
            value = last;
            break;
          case '!':
            high--;
            value = high >= 0 && high < TAPE_ROOM && stack[high] == 0 ? 1 : 0;
            break;
          default:
            if (step < 0) {
              high -= 2;
              boolean both = high >= 0 && high < TAPE_ROOM - 1;
              value = both ? joined(0 - step, stack[high], stack[high + 1]) : 0;
            }
        }
        if (high < 0 || high >= TAPE_ROOM) {
          return 0;
        }
        stack[high] = value;
        high++;
      }
      return high > 0 ? stack[0] : 0;
    }

    private static int joined(int sign, int a, int b) {
      switch (sign) {
        case '|':
          return a != 0 || b != 0 ? 1 : 0;
        case '&':
          return a != 0 && b != 0 ? 1 : 0;
        case '<':
          return a < b ? 1 : 0;
        case '=':
          return a == b ? 1 : 0;
        case '>':
          return a > b ? 1 : 0;
        case '+':
          return a + b;
        case '-':
          return a - b;
        case '*':
          return a * b;
        case '/':
          return b == 0 ? 0 : a / b;
        case '%':
          return b == 0 ? 0 : a % b;
        default:
          return 0;
      }
    }
  }

  /** Reads THE TAPE into a draft, so that the TEXT ahead stays if there is a FAULT. */
  private static final class Reader {
    final Text draft = new Text();
    private final Row bytes = new Row(TAPE_ROOM);
    private int place;
    private int use;

    /** The FAULT, or -1: it is a TEXT. */
    int faultOf(Row tape, int forUse) {
      bytes.copyFrom(tape);
      draft.clear();
      place = 0;
      use = forUse;
      boolean read = readLevel(0, 0);
      return read && place == bytes.size() ? -1 : place;
    }

    /** Reads a T (level 0), A, B, S or P (level 4); a Q stands below the last level. */
    private boolean readLevel(int level, int open) {
      if (level >= LEVELS) {
        return readLeaf(open);
      }
      if (!readLevel(level + 1, open)) {
        return false;
      }
      boolean more = true;
      for (int i = 0; i < TAPE_ROOM && more && levelOf(next()) == level; i++) {
        int sign = next();
        place++;
        if (!readLevel(level + 1, open)) {
          return false;
        }
        draft.addSign(sign);
        more = level != COMPARE_LEVEL;
      }
      return true;
    }

    private boolean readLeaf(int open) {
      int sign = next();
      if (isDigit(sign)) {
        readNumber();
        return true;
      }
      if (isName(sign)) {
        draft.addSign(sign);
        place++;
        return true;
      }
      if (sign != '!' && sign != '(' || open >= MOST_OPEN) {
        return false;
      }
      place++;
      return sign == '!' ? readDenied(open + 1) : readClosed(open + 1);
    }

    private boolean readDenied(int open) {
      if (!readLeaf(open)) {
        return false;
      }
      draft.addSign('!');
      return true;
    }

    private boolean readClosed(int open) {
      if (!readLevel(0, open) || next() != ')') {
        return false;
      }
      place++;
      return true;
    }

    private void readNumber() {
      int value = 0;
      for (int i = 0; i < 4 && isDigit(next()); i++) {
        value = value * 10 + next() - '0';
        place++;
      }
      draft.addNumber(value);
    }

    private int next() {
      return place < bytes.size() ? bytes.at(place) : -1;
    }

    private boolean isName(int sign) {
      boolean shared = sign == 'r' || sign == 'w';
      return shared || (use == DUES_USE ? sign == 's' || sign == 'm' : sign == 'd');
    }

    private static boolean isDigit(int sign) {
      return sign >= '0' && sign <= '9';
    }

    private static int levelOf(int sign) {
      switch (sign) {
        case '|':
          return 0;
        case '&':
          return 1;
        case '<':
        case '=':
        case '>':
          return COMPARE_LEVEL;
        case '+':
        case '-':
          return 3;
        case '*':
        case '/':
        case '%':
          return 4;
        default:
          return -1;
      }
    }
  }

  /** All that an IMAGE keeps. */
  private static final class State {
    final int[] worth = new int[MOST_FIELDS];
    final int[] rain = new int[MOST_FIELDS];
    final int[] sum = new int[MOST_FIELDS];
    final int[] pennies = new int[MOST_FIELDS];
    private final int[] pays = new int[MOST_FIELDS];
    int size;
    /** Each as 10 times its KIND, and m. */
    final Row laws = new Row(MOST_LAWS);
    int force = -1;
    int off = 2;
    int spread = 10;
    final int[] comes = new int[WEATHERS];
    final int[][] skies = new int[WEATHERS][MOST_FIELDS];
    int day;
    int z = 1;
    final Row tape = new Row(TAPE_ROOM);
    final Row waiting = new Row(MOST_NUMBERS);
    private final Text dues = new Text();
    private final Text crop = new Text();

    /** Whole rows come, so that behind the last FIELD all stays nought for a new one. */
    void copyFrom(State other) {
      System.arraycopy(other.worth, 0, worth, 0, MOST_FIELDS);
      System.arraycopy(other.rain, 0, rain, 0, MOST_FIELDS);
      System.arraycopy(other.sum, 0, sum, 0, MOST_FIELDS);
      System.arraycopy(other.pennies, 0, pennies, 0, MOST_FIELDS);
      System.arraycopy(other.comes, 0, comes, 0, WEATHERS);
      for (int w = 0; w < WEATHERS; w++) {
        System.arraycopy(other.skies[w], 0, skies[w], 0, MOST_FIELDS);
      }
      size = other.size;
      laws.copyFrom(other.laws);
      force = other.force;
      off = other.off;
      spread = other.spread;
      day = other.day;
      z = other.z;
      tape.copyFrom(other.tape);
      waiting.copyFrom(other.waiting);
      dues.copyFrom(other.dues);
      crop.copyFrom(other.crop);
    }

    boolean hasField(int field) {
      return field >= 0 && field < size;
    }

    int newField(int itsWorth) {
      int field = size;
      worth[field] = itsWorth;
      size++;
      return field;
    }

    Text textOf(int use) {
      return use == DUES_USE ? dues : crop;
    }

    int cropOf(int field) {
      if (!crop.isTold()) {
        return rain[field] * worth[field];
      }
      return held(crop.workOut(rain[field], worth[field], 0, day), MOST_CROP);
    }

    int owes(int law, int field, int itsRain, int itsSum) {
      if (!laws.has(law) || !hasField(field)) {
        return 0;
      }
      int km = laws.at(law);
      int m = km % 10;
      int byInch = itsRain * m / 10;
      int byWorth = itsRain * worth[field] / 10;
      switch (km / 10) {
        case LAW_KIND:
          return itsRain != 0 ? 1 : 0;
        case INCH_KIND:
          return byInch;
        case WORTHY_KIND:
          return byWorth;
        case TURN_KIND:
          return itsRain > 50 ? 0 - byInch : byInch;
        case LONG_KIND:
          return byInch + itsSum / 10;
        case STORE_KIND:
          return byWorth + m;
        default:
          if (!dues.isTold()) {
            return itsRain / 10 - m;
          }
          return held(dues.workOut(itsRain, worth[field], itsSum, m), MOST_DUES);
      }
    }

    /** Whether what is owed by the LAW IN FORCE can change with SUMS. */
    boolean looksAtSums() {
      int kind = laws.has(force) ? laws.at(force) / 10 : LAW_KIND;
      return kind == LONG_KIND || kind == TOLD_KIND && dues.names('s');
    }

    int owesToday(int law, int field) {
      return hasField(field) ? owes(law, field, rain[field], sum[field]) : 0;
    }

    int allOwe(int law) {
      int all = 0;
      for (int i = 0; i < size; i++) {
        all += owesToday(law, i);
      }
      return all;
    }

    /** What each would PAY by a LAW with such RAINS and SUMS, into a row of MOST_FIELDS. */
    void paysBy(int law, int[] rains, int[] sums, int[] into) {
      int all = 0;
      for (int i = 0; i < size; i++) {
        into[i] = owes(law, i, rains[i], sums[i]);
        all += into[i];
      }
      for (int i = 0; i < size; i++) {
        into[i] = into[i] * size - all;
      }
    }

    void paysToday(int[] into) {
      paysBy(force, rain, sum, into);
    }

    int endDay() {
      paysBy(force, rain, sum, pays);
      day++;
      boolean weekIsOver = day % WEEK == 0;
      int paying = 0;
      for (int i = 0; i < size; i++) {
        paying += pays[i] > 0 ? 1 : 0;
        pennies[i] = held(pennies[i] - pays[i], MOST_PENNIES);
        sum[i] = weekIsOver ? 0 : sum[i] + rain[i];
        rain[i] = 0;
      }
      return paying;
    }

    void dayUnder(int w) {
      if (within(w, 0, WEATHERS - 1)) {
        System.arraycopy(skies[w], 0, rain, 0, size);
        endDay();
      }
    }

    int allChances() {
      int all = 0;
      for (int w = 0; w < WEATHERS; w++) {
        all += comes[w];
      }
      return all;
    }

    boolean isWhole() {
      return allChances() == CHANCES;
    }

    int drawnWeather() {
      z = z * 1103515245 + 12345;
      int rest = (z >>> 8) % CHANCES;
      int w = 0;
      int below = comes[0];
      while (w < WEATHERS - 1 && rest >= below) {
        w++;
        below += comes[w];
      }
      return w;
    }

    /** 16 times what each would PAY by a LAW on the mean, into a row of MOST_FIELDS. */
    void meansBy(int law, int[] into) {
      for (int i = 0; i < size; i++) {
        into[i] = 0;
      }
      for (int w = 0; w < WEATHERS; w++) {
        if (comes[w] > 0) {
          paysBy(law, skies[w], sum, pays);
          for (int i = 0; i < size; i++) {
            into[i] += comes[w] * pays[i];
          }
        }
      }
    }

    int evenestLaw(int[] means) {
      int evenest = 0;
      long least = 0;
      for (int law = 0; law < laws.size(); law++) {
        meansBy(law, means);
        long squares = 0;
        for (int i = 0; i < size; i++) {
          squares += (long) means[i] * means[i];
        }
        if (law == 0 || squares < least) {
          evenest = law;
          least = squares;
        }
      }
      return evenest;
    }

    /** Two alone pay each other their difference, so the least squares are the least difference. */
    int nearestTwo(int[] owed) {
      for (int i = 0; i < size; i++) {
        owed[i] = owesToday(force, i);
      }
      int nearest = 1;
      int least = -1;
      for (int i = 0; i < size; i++) {
        for (int j = i + 1; j < size; j++) {
          int apart = Math.abs(owed[i] - owed[j]);
          if (least < 0 || apart < least) {
            least = apart;
            nearest = 10 * i + j;
          }
        }
      }
      return nearest;
    }
  }

  /** HEAPS and FIRST, over all sets of FIELDS as bits. */
  private static final class Settling {
    int whole;
    int most;
    int first;
    private final int[] sums = new int[1 << MOST_FIELDS];
    private final int[] heaps = new int[1 << MOST_FIELDS];

    void workOut(int[] pays, int size) {
      whole = 0;
      for (int i = 0; i < size && i < pays.length; i++) {
        whole |= pays[i] != 0 ? 1 << i : 0;
      }
      first = 0;
      for (int set = 1; set <= whole && set < sums.length; set++) {
        if ((set & ~whole) == 0) {
          weigh(set, pays);
        }
      }
      most = whole > 0 && whole < heaps.length ? heaps[whole] : 0;
    }

    /** All smaller sets have been weighed; the least that is nought has no part that is. */
    private void weigh(int set, int[] pays) {
      int best = 0;
      int sum = 0;
      for (int i = 0; i < pays.length; i++) {
        int bit = 1 << i;
        if ((set & bit) != 0) {
          best = Math.max(best, heaps[set ^ bit]);
          sum = sums[set ^ bit] + pays[i];
        }
      }
      sums[set] = sum;
      heaps[set] = sum == 0 ? best + 1 : best;
      if (sum == 0 && first == 0) {
        first = set;
      }
    }
  }

  /** WRONG GAUGES, over all sets of them as bits. */
  private static final class Gauges {
    int wrongly;
    int least;
    int surely;
    int maybe;
    /** For each GAUGE those that can be right beside it. */
    private final int[] agree = new int[MOST_FIELDS];

    void workOut(State state) {
      int size = Math.min(state.size, agree.length);
      for (int i = 0; i < size; i++) {
        agree[i] = agreeingWith(state, i, size);
      }
      int all = (1 << size) - 1;
      wrongly = size + 1;
      for (int set = 0; set <= all; set++) {
        int bits = Integer.bitCount(set);
        if (bits <= wrongly && isRight(all ^ set, size)) {
          take(set, bits);
        }
      }
    }

    private void take(int set, int bits) {
      if (bits < wrongly) {
        wrongly = bits;
        least = set;
        surely = set;
        maybe = set;
      } else {
        surely &= set;
        maybe |= set;
      }
    }

    private static int agreeingWith(State state, int i, int size) {
      int agreeing = 0;
      for (int j = 0; j < size; j++) {
        int apart = Math.abs(state.rain[i] - state.rain[j]);
        if (apart <= 2 * state.off + state.spread * Math.abs(i - j)) {
          agreeing |= 1 << j;
        }
      }
      return agreeing;
    }

    private boolean isRight(int set, int size) {
      boolean right = true;
      for (int i = 0; i < size && right; i++) {
        right = (set & 1 << i) == 0 || (set & ~agree[i]) == 0;
      }
      return right;
    }
  }

  /**
   * All rows of WEATHERS that can come in the days ahead, for one FIELD. What it PAYS in a day
   * hangs on SUMS alone, which hang on how often each WEATHER came, not in which order: so it is
   * worked out once for each such count (a node) and kept while one look lasts.
   */
  private static final class Forecast {
    private static final int MOST_ROWS = 4096;
    private static final int NODES_OF_DAY = 216;
    private static final int NODES = MOST_AHEAD * NODES_OF_DAY;
    /** How a node's number grows with each WEATHER; WEATHER 0 came in what is left of the days. */
    private static final int[] NODE_STEPS = {0, 1, 6, 36};

    private final int[] pays = new int[NODES * WEATHERS];
    private final int[] workedOutIn = new int[NODES];
    private int look;
    private final int[] sums = new int[MOST_FIELDS];
    private final int[] allPay = new int[MOST_FIELDS];
    private final int[] leasts = new int[MOST_ROWS];
    private final int[] weights = new int[MOST_ROWS];
    private int rows;
    private int rowsWanted;
    private int wanted;
    private int field;
    private int length;
    private boolean summed;

    /** Follows an empty purse of a FIELD through n days. */
    void look(State state, int itsField, int n) {
      begin(itsField, n, state.looksAtSums());
      follow(state, 0, 0, 0, 0, 1);
    }

    /** How many rows lead from the FIELD's PENNIES to so many. */
    int rowsTo(State state, int itsField, int n, int pennies) {
      begin(itsField, n, state.looksAtSums());
      wanted = pennies;
      follow(state, 0, 0, state.hasField(itsField) ? state.pennies[itsField] : 0, 0, 1);
      return rowsWanted;
    }

    long allWeight() {
      return 1L << 4 * length;
    }

    /** The weight of the rows with which a purse of b fails. */
    long failing(int b) {
      long weight = 0;
      for (int i = 0; i < rows; i++) {
        if (b + leasts[i] < 0) {
          weight += weights[i];
        }
      }
      return weight;
    }

    /** The least purse that fails in no more than k hundredths. */
    int leastPurse(int k) {
      int low = 0;
      int high = 0;
      for (int i = 0; i < rows; i++) {
        high = Math.max(high, 0 - leasts[i]);
      }
      // A larger purse never fails more often, so the bounds can be halved.
      for (int i = 0; i < 32 && low < high; i++) {
        int middle = low + (high - low) / 2;
        if (failing(middle) * 100 <= k * allWeight()) {
          high = middle;
        } else {
          low = middle + 1;
        }
      }
      return low;
    }

    private void begin(int itsField, int n, boolean onSums) {
      field = itsField;
      length = n;
      summed = onSums;
      rows = 0;
      rowsWanted = 0;
      look++;
    }

    private void follow(State state, int gone, int node, int pennies, int least, int weight) {
      if (gone >= length || gone >= MOST_AHEAD) {
        endRow(pennies, least, weight);
        return;
      }
      int place = summed ? gone * NODES_OF_DAY + node : 0;
      if (place < 0 || place >= NODES) {
        return;
      }
      if (workedOutIn[place] != look) {
        workOut(state, gone, node, place);
      }
      boolean weekIsOver = (state.day + gone + 1) % WEEK == 0;
      for (int w = 0; w < WEATHERS; w++) {
        if (state.comes[w] > 0) {
          int then = held(pennies - pays[place * WEATHERS + w], MOST_PENNIES);
          int after = weekIsOver ? 0 : node + NODE_STEPS[w];
          follow(state, gone + 1, after, then, Math.min(least, then), weight * state.comes[w]);
        }
      }
    }

    private void endRow(int pennies, int least, int weight) {
      if (pennies == wanted) {
        rowsWanted++;
      }
      if (rows < MOST_ROWS) {
        leasts[rows] = least;
        weights[rows] = weight;
        rows++;
      }
    }

    private void workOut(State state, int gone, int node, int place) {
      workedOutIn[place] = look;
      boolean sameWeek = state.day % WEEK + gone < WEEK;
      int summedDays = sameWeek ? gone : (state.day + gone) % WEEK;
      int second = node % 6;
      int third = node / 6 % 6;
      int fourth = node / 36;
      int first = summedDays - second - third - fourth;
      for (int i = 0; i < state.size; i++) {
        sums[i] = (sameWeek ? state.sum[i] : 0)
            + first * state.skies[0][i] + second * state.skies[1][i]
            + third * state.skies[2][i] + fourth * state.skies[3][i];
      }
      for (int w = 0; w < WEATHERS; w++) {
        if (state.comes[w] > 0) {
          state.paysBy(state.force, state.skies[w], sums, allPay);
          pays[place * WEATHERS + w] = field >= 0 && field < MOST_FIELDS ? allPay[field] : 0;
        }
      }
    }
  }

  /** VOICES: a BODY is looked for from a KIND on upwards. */
  private static final class Voices {
    /** BODIES that began are told of whatever voice() answers then, so PARTED leaves them here. */
    final Row trace = new Row(TRACE_ROOM);
    boolean parted;
    private int own;
    private int k;
    private int m;

    int ask(int law, int km, int voice, int x) {
      trace.clear();
      parted = false;
      own = km / 10;
      k = law;
      m = km % 10;
      return speak(own, voice, x, 0);
    }

    /** What is PARTED ends all: no BODY begins behind it. */
    private int speak(int kind, int voice, int x, int depth) {
      int owner = ownerOf(kind, voice);
      if (parted || depth > DEEPEST || owner < 0) {
        return 0;
      }
      int body = BODIES[owner * VOICES + voice];
      trace.add(body);
      int above = KIND_ABOVE[owner];
      int next = depth + 1;
      switch (body) {
        case 10:
          return x + k;
        case 11:
          return speak(own, RAINS_VOICE, x, next) * 2;
        case 12:
          return speak(own, OWES_VOICE, x, next) - m;
        case 13:
          return partsOf(x);
        case 20:
          return speak(above, RAINS_VOICE, x, next) - 6;
        case 21:
          return speak(above, PARTS_VOICE, x, next) + speak(own, OWES_VOICE, 1, next);
        case 30:
          return 0 - speak(above, OWES_VOICE, x, next);
        case 40:
          return speak(above, RAINS_VOICE, x, next) * 3;
        case 41:
          return speak(above, PAYS_VOICE, x, next) ^ k;
        case 50:
          return speak(above, PAYS_VOICE, x / 2, next);
        case 60:
          return speak(above, OWES_VOICE, x + 1, next);
        case 70:
          return 4;
        case 71:
          return speak(above, OWES_VOICE, x, next) + m;
        default:
          return 0;
      }
    }

    private int partsOf(int x) {
      int by = m - k;
      if (by == 0) {
        parted = true;
        return 0;
      }
      return x / by;
    }

    /** The next KIND, from this one upwards, that has a BODY for a VOICE; -1: none. */
    private static int ownerOf(int kind, int voice) {
      if (!within(voice, 0, VOICES - 1)) {
        return -1;
      }
      int owner = kind;
      for (int i = 0; i < KIND_ABOVE.length && within(owner, LAW_KIND, TOLD_KIND); i++) {
        if (BODIES[owner * VOICES + voice] != 0) {
          return owner;
        }
        owner = KIND_ABOVE[owner];
      }
      return -1;
    }
  }

  /** A SHEET; without bits it is missing. */
  private static final class Sheet {
    int bits;
    int size;
    final int[] numbers = new int[MOST_NUMBERS];

    void renew(int itsBits, int n) {
      bits = itsBits;
      size = Math.max(0, Math.min(n, MOST_NUMBERS));
      for (int i = 0; i < MOST_NUMBERS; i++) {
        numbers[i] = 0;
      }
    }

    int at(int i) {
      return i >= 0 && i < size ? numbers[i] : 0;
    }

    /** Numbers have a sign, as the rows of so many bits that Java has. */
    void change(int i, int v) {
      if (i >= 0 && i < size) {
        numbers[i] = bits == 8 ? (byte) v : bits == 16 ? (short) v : v;
      }
    }

    /** Whether n numbers stand there from a place on; sums of the two could wrap. */
    boolean holds(int place, int n) {
      return n >= 0 && place >= 0 && place <= size && n <= size - place;
    }
  }
}
