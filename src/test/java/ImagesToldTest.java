import java.util.List;

/** The boundaries that promises 36 to 41 name: a test for each. */
public final class ImagesToldTest extends Bench {
  /** Calls that change something that an IMAGE keeps, of an object that is BUSY. */
  private static final Object[][] CHANGES = {
    {"field", 9}, {"set", 1, 0, 9}, {"set", 2, 1, 9}, {"law", 9}, {"become", 0, 16},
    {"become", 1, 62}, {"force", 0}, {"force", -1}, {"feed", '+', 1}, {"text", 0}, {"text", 1},
    {"untell", 0}, {"untell", 1}, {"evening"}, {"gauge", 0, 9}, {"gauge", 1, 9},
    {"weather", 0, 7}, {"weather", 3, 0}, {"rain", 0, 0, 98}, {"rain", 3, 2, 98}, {"days", 1},
    {"seed", 9}, {"rains", 0}, {"play", 0}, {"tell", 9}, {"check"}
  };
  /** Calls that change what no IMAGE keeps. */
  private static final Object[][] OTHER_CHANGES = {
    {"voice", 0, 0, 5}, {"sheet", 0, 0, 0}, {"sheet", 3, 8, 2}, {"sheet", 1, 16, 5},
    {"sheet", 2, 8, 0}, {"put", 0, 2, 98}, {"put", 1, 5, 98}, {"move", 0, 0, 0, 1, 1}
  };

  public static void main(String[] args) {
    runAll(ImagesToldTest.class, 36, 41);
  }

  private static long call(Counted x, Object[] nameAndNumbers) {
    long[] a = new long[nameAndNumbers.length - 1];
    for (int i = 0; i < a.length; i++) {
      Object v = nameAndNumbers[i + 1];
      a[i] = v instanceof Character ? (Character) v : (Integer) v;
    }
    return x.call((String) nameAndNumbers[0], a);
  }

  private static void alike(Counted x, Counted twin, Object[] change) {
    List<Long> want = Witness.seen(twin);
    List<Long> seen = Witness.seen(x);
    need(want.equals(seen), change[0] + ": " + seen + " is seen, not " + want);
  }

  // ---- promise 36

  private static void promise36HowOftenItWasDone() {
    RainPurse x = new RainPurse();
    for (int i = 1; i <= 30; i++) {
      due(x.image(), i);
      due(x.restore(), 0);
    }
    due(x.field(21), BEYOND);
    due(x.image(), 31);
    due(new RainPurse().image(), 1);
  }

  private static void promise36InPlaceOfOneAhead() {
    RainPurse x = rained(5);
    x.image();
    x.set(0, 1, 6);
    x.image();
    x.set(0, 1, 7);
    x.restore();
    dues(ofFields(x, 1), 6);
  }

  /** Without it the tests of refused calls would see nothing. */
  private static void promise36EachChangeIsSeen() {
    for (Object[][] changes : new Object[][][] {CHANGES, OTHER_CHANGES}) {
      for (Object[] change : changes) {
        Counted x = Witness.made(Witness.BUSY);
        call(x, change);
        List<Long> seen = Witness.seen(x);
        need(!seen.equals(Witness.seen(Witness.made(Witness.BUSY))), change[0] + " is not seen");
      }
    }
  }

  private static void promise36AnImageChangesNothingElse() {
    RainPurse x = under(34, 60, 3);
    x.tell(4);
    feed(x, "r");
    x.image();
    dues(ofFields(x, 5), -25, 25);
    due(x.count(6), 1);
    due(x.count(7), 1);
  }

  // ---- promise 37

  private static void promise37WithoutAnImage() {
    RainPurse x = rained(5);
    due(x.restore(), NONE);
    dues(ofFields(x, 1), 5);
    due(x.told(2), 1);
    x.image();
    due(x.restore(), 0);
  }

  private static void promise37AllIsAsTheImageHasIt() {
    for (Object[] change : CHANGES) {
      Counted x = Witness.made(Witness.BUSY);
      x.call("image");
      call(x, change);
      due(x.call("restore"), 3);
      Counted twin = Witness.made(Witness.BUSY);
      twin.call("image");
      twin.call("restore");
      alike(x, twin, change);
    }
  }

  private static void promise37WhatNoImageKeepsStays() {
    for (Object[] change : OTHER_CHANGES) {
      Counted x = Witness.made(Witness.BUSY);
      x.call("image");
      call(x, change);
      x.call("restore");
      Counted twin = Witness.made(Witness.BUSY);
      twin.call("image");
      call(twin, change);
      alike(x, twin, change);
    }
  }

  /** What is changed behind restore() doesn't come into the IMAGE. */
  private static void promise37TheImageStays() {
    for (Object[] change : CHANGES) {
      Counted x = Witness.made(Witness.BUSY);
      x.call("image");
      x.call("restore");
      call(x, change);
      due(x.call("restore"), 3);
      Counted twin = Witness.made(Witness.BUSY);
      twin.call("image");
      alike(x, twin, change);
    }
  }

  private static void promise37ToldGoesOn() {
    RainPurse x = rained(5);
    x.field(21);
    x.image();
    x.field(22);
    x.two();
    x.restore();
    dues(toldOf(x), 2, 1, 0, 0, 0, 0);
  }

  private static void promise37AnswersDay() {
    RainPurse x = new RainPurse();
    x.evening();
    x.image();
    x.evening();
    x.evening();
    due(x.restore(), 1);
    due(x.count(2), 1);
    goTo(x, 9999);
    x.image();
    due(x.restore(), 9999);
    due(x.evening(), STATE);
  }

  private static void promise37RowsThatWereFullOrEmpty() {
    Counted x = Witness.made(Witness.FULL_UP);
    x.call("image");
    x.call("check");
    x.call("text", 1);
    x.call("restore");
    due(x.call("field", 0), FULL);
    due(x.call("law", 0), FULL);
    due(x.call("feed", 0, 1), FULL);
    due(x.call("tell", 0), FULL);
    RainPurse y = new RainPurse();
    y.image();
    for (int i = 0; i < 8; i++) {
      y.field(20);
      y.set(i, 1, 99);
      y.law(59);
      y.rain(2, i, 99);
    }
    due(y.restore(), 0);
    due(y.count(0), 0);
    due(y.count(1), 0);
    due(y.field(3), 0);
    dues(ofFields(y, 1), 0);
    due(y.rain(2, 0, 0), 0);
    due(y.lawIs(0, 0), BEYOND);
  }

  // ---- promise 38

  private static void promise38TwentyFourWait() {
    RainPurse x = new RainPurse();
    for (int i = 1; i <= 24; i++) {
      due(x.tell(i), i);
      due(x.count(7), i);
    }
    due(x.tell(0), FULL);
    due(x.tell(DEEP), FULL);
    due(x.count(7), 24);
    due(x.told(4), 2);
    x.check();
    due(x.tell(0), 1);
  }

  private static void promise38AnyNumber() {
    RainPurse x = new RainPurse();
    int[] any = {DEEP, FAR, LOW - 1, LOW - 4, 0};
    for (int i = 0; i < any.length; i++) {
      due(x.tell(any[i]), i + 1);
    }
    dues(toldOf(x), 0, 0, 0, 0, 0, 0);
  }

  // ---- promise 39

  private static void promise39NoneWaitNoFields() {
    RainPurse x = new RainPurse();
    due(x.check(), 0);
    x.tell(0);
    due(x.check(), 1);
    due(x.check(), 0);
  }

  private static RainPurse telling(RainPurse x, int... numbers) {
    for (int v : numbers) {
      x.tell(v);
    }
    return x;
  }

  private static void promise39OneThatLacks() {
    RainPurse x = paying(2, -1, -1);
    due(x.check(), 1);
    due(telling(x, 6).check(), 2);
    due(telling(x, 6, -3).check(), 3);
    due(telling(x, 6, -3, -3).check(), 0);
    due(rained(0, 0, 0, 0, 0, 0, 0, 0).check(), 1);
    due(telling(rained(0, 0, 0, 0, 0, 0, 0, 0), 0, 0, 0, 0, 0, 0, 0).check(), 8);
  }

  private static void promise39OneTooMany() {
    RainPurse x = paying(2, -1, -1);
    due(telling(x, 6, -3, -3, 0).check(), 4);
    due(telling(x, 6, -3, -3, -3, 5).check(), 4);
    RainPurse y = rained(0, 0, 0, 0, 0, 0, 0, 0);
    due(telling(y, 0, 0, 0, 0, 0, 0, 0, 0).check(), 0);
    due(telling(y, 0, 0, 0, 0, 0, 0, 0, 0, 0).check(), 9);
    due(telling(y, new int[24]).check(), 9);
  }

  private static void promise39TheFirstThatIsNotSo() {
    int[] pays = {7, -1, -1, -1, -1, -1, -1, -1};
    for (int i = 0; i < 8; i++) {
      RainPurse x = under(0, 9, 0, 0, 0, 0, 0, 0, 0);
      int[] told = pays.clone();
      told[i]++;
      due(telling(x, told).check(), 1 + i);
      told[7] += 5;
      due(telling(x, told).check(), 1 + i);
      due(telling(x, pays).check(), 0);
    }
    due(telling(paying(2, -1, -1), FAR, DEEP).check(), 1);
  }

  private static void promise39NoneWaitThen() {
    RainPurse x = telling(paying(1, -1), 2, -2);
    due(x.check(), 0);
    due(x.count(7), 0);
    telling(x, 3, 4, 5);
    due(x.check(), 1);
    due(x.count(7), 0);
    dues(ofFields(x, 3), 0, 0);
  }

  // ---- promise 40

  private static void promise40RowsThatAreEmptyAndFull() {
    Counted empty = new Counted();
    Counted full = Witness.made(Witness.FULL_UP);
    int[] what = {0, 1, 6, 7, 8};
    int[] most = {8, 5, 60, 24, 6};
    for (int i = 0; i < what.length; i++) {
      due(empty.call("count", what[i]), 0);
      due(full.call("count", what[i]), most[i]);
    }
  }

  private static void promise40EachAtItsEdges() {
    RainPurse x = under(0, 5);
    due(x.count(3), 0);
    x.force(-1);
    due(x.count(3), -1);
    for (int i = 1; i < 5; i++) {
      x.law(0);
    }
    x.force(4);
    due(x.count(3), 4);
    x.gauge(0, 0);
    x.gauge(1, 99);
    due(x.count(4), 0);
    due(x.count(5), 99);
    goTo(x, 9999);
    due(x.count(2), 9999);
    due(x.count(13), 16);
    due(x.count(10), 0);
  }

  private static void promise40WhatIs0To13() {
    RainPurse x = new RainPurse();
    int[] none = {-1, 14, DEEP, FAR};
    for (int what : none) {
      due(x.count(what), BEYOND);
    }
    due(x.count(13), 0);
    due(x.told(1), 4);
  }

  private static void promise40ZMayLookLikeAnError() {
    RainPurse x = new RainPurse();
    int[] any = {LOW - 1, LOW - 6, DEEP, FAR};
    for (int v : any) {
      x.seed(v);
      due(x.count(9), v);
    }
    dues(toldOf(x), 0, 0, 0, 0, 0, 0);
  }

  // ---- promise 41

  private static void promise41AnotherKIsCountedToo() {
    RainPurse x = new RainPurse();
    due(x.told(0), BEYOND);
    due(x.told(7), BEYOND);
    due(x.told(-1), BEYOND);
    due(x.told(DEEP), BEYOND);
    due(x.told(FAR), BEYOND);
    dues(toldOf(x), 5, 0, 0, 0, 0, 0);
  }

  private static void promise41EachErrorApart() {
    RainPurse x = new RainPurse();
    x.law(0);
    long[] told = new long[6];
    for (int round = 0; round < 3; round++) {
      for (int k = 1; k <= 6; k++) {
        due(answerOf(x, k), LOW - k);
        told[k - 1]++;
        dues(toldOf(x), told);
      }
    }
  }

  private static int answerOf(RainPurse x, int k) {
    switch (k) {
      case 1: return x.field(-1);
      case 2: return x.two();
      case 3: return x.sheet(0, 8, -1);
      case 4:
        for (int i = x.count(7); i < 24; i++) {
          x.tell(0);
        }
        return x.tell(0);
      case 5: return x.as(0, 1);
      default: return x.voice(0, 3, 0);
    }
  }

  private static void promise41LongErrorsAreCountedToo() {
    RainPurse x = rained(5);
    due(x.fails(0, 0, 1, 0), LONG_LOW - 3);
    due(x.fails(1, 0, 1, 0), LONG_LOW - 1);
    dues(toldOf(x), 1, 0, 1, 0, 0, 0);
  }

  private static void promise41WhatIsNoErrorIsNotCounted() {
    RainPurse x = rained(5, 6);
    due(x.text(0), -10);
    x.sheet(0, 8, 3);
    x.put(0, 0, -1);
    due(x.rains(0), 0);
    due(x.judge(0), 0);
    due(x.play(0), 0);
    due(x.check(), 1);
    due(x.force(-1), -1);
    x.seed(LOW - 1);
    due(x.seed(1), LOW - 1);
    dues(toldOf(x), 0, 0, 0, 0, 0, 0);
  }
}
