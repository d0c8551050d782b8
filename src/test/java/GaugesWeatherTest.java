import java.math.BigInteger;

/** The boundaries that promises 17 to 27 name, with what of Term 3 they stand on. */
public final class GaugesWeatherTest extends Bench {
  /** RAIN by each of four WEATHERS, and in how many days they come. */
  private static final int[] RAIN = {2, 1, 3, 7};
  private static final int[] COMES = {1, 2, 4, 9};
  /** No row of six days costs more: 7 on each, and what falls and fell in the week. */
  private static final int MOST = 219;

  public static void main(String[] args) {
    runAll(GaugesWeatherTest.class, 17, 27);
  }

  // ---- promise 17

  private static void promise17OffAndSpreadAre0To99() {
    for (int what = 0; what < 2; what++) {
      RainPurse x = new RainPurse();
      due(x.gauge(what, 100), BEYOND);
      due(x.gauge(what, -1), BEYOND);
      due(x.gauge(what, 0), what == 0 ? 2 : 10);
      due(x.gauge(what, 99), 0);
      due(x.gauge(what, 99), 99);
      due(x.count(4 + what), 99);
      due(x.count(5 - what), what == 0 ? 10 : 2);
    }
  }

  private static void promise17OnlyOffAndSpread() {
    RainPurse x = new RainPurse();
    int[] none = {-1, 2, DEEP, FAR};
    for (int what : none) {
      due(x.gauge(what, 5), BEYOND);
    }
    due(x.count(4), 2);
    due(x.count(5), 10);
  }

  // ---- promise 18

  private static void wrongs(RainPurse x, int wrongly, int least, int surely, int maybe) {
    due(x.wrong(0), wrongly);
    due(x.wrong(1), least);
    due(x.wrong(2), surely);
    due(x.wrong(3), maybe);
  }

  private static RainPurse gauged(int off, int spread, int... rain) {
    RainPurse x = rained(rain);
    x.gauge(0, off);
    x.gauge(1, spread);
    return x;
  }

  private static void promise18WithoutGaugesNoneIsWrong() {
    wrongs(new RainPurse(), 0, 0, 0, 0);
    wrongs(rained(99), 0, 0, 0, 0);
    wrongs(gauged(0, 0, 99), 0, 0, 0, 0);
  }

  private static void promise18TwoBesideEachOther() {
    wrongs(rained(0, 14), 0, 0, 0, 0);
    wrongs(rained(0, 15), 1, 1, 0, 3);
    wrongs(rained(14, 0), 0, 0, 0, 0);
    wrongs(rained(15, 0), 1, 1, 0, 3);
  }

  private static void promise18SpreadForEachStep() {
    wrongs(rained(0, 14, 24), 0, 0, 0, 0);
    wrongs(rained(0, 12, 25), 1, 1, 0, 5);
    wrongs(rained(0, 14, 24, 34, 44, 54, 64, 74), 0, 0, 0, 0);
    wrongs(rained(0, 14, 24, 34, 44, 54, 64, 75), 1, 1, 0, 129);
  }

  private static void promise18EachTwoOfEight() {
    for (int i = 0; i < 8; i++) {
      for (int j = i + 1; j < 8; j++) {
        int most = 10 * (j - i) + 4;
        int[] rain = new int[8];
        for (int k = 0; k < 8; k++) {
          rain[k] = k <= i ? 5 : k >= j ? 5 + most : 5 + 10 * (k - i) + 2;
        }
        wrongs(rained(rain), 0, 0, 0, 0);
        RainPurse x = gauged(2, 10, 50, 50, 50, 50, 50, 50, 50, 50);
        x.set(i, 1, 50 - (most + 1) / 2);
        x.set(j, 1, 50 + (most + 2) / 2);
        need(x.wrong(0) > 0, i + " and " + j + " can't both be right");
      }
    }
    for (int i = 0; i < 7; i++) {
      RainPurse x = rained(50, 50, 50, 50, 50, 50, 50, 50);
      x.set(i, 1, 43);
      x.set(i + 1, 1, 57);
      wrongs(x, 0, 0, 0, 0);
      x.set(i + 1, 1, 58);
      wrongs(x, 1, 1 << i, 0, 3 << i);
    }
  }

  private static void promise18AskedAgain() {
    RainPurse x = rained(0, 99, 0, 99, 0, 99, 0, 99);
    wrongs(x, 4, 85, 0, 255);
    x.gauge(0, 99);
    wrongs(x, 0, 0, 0, 0);
    x.gauge(0, 2);
    for (int i = 0; i < 7; i++) {
      x.set(i, 1, 0);
    }
    wrongs(x, 1, 128, 128, 128);
  }

  private static void promise18OffAt0And99() {
    wrongs(gauged(0, 0, 9, 9, 9), 0, 0, 0, 0);
    wrongs(gauged(0, 0, 9, 9, 10), 1, 4, 4, 4);
    wrongs(gauged(49, 0, 0, 98), 0, 0, 0, 0);
    wrongs(gauged(49, 0, 0, 99), 1, 1, 0, 3);
    wrongs(gauged(99, 0, 0, 99, 0, 99), 0, 0, 0, 0);
  }

  private static void promise18SpreadAt0And99() {
    wrongs(gauged(0, 99, 0, 99, 0, 99, 99, 0, 0, 99), 0, 0, 0, 0);
    wrongs(gauged(0, 98, 0, 99), 1, 1, 0, 3);
    wrongs(gauged(0, 49, 0, 50, 98), 1, 1, 0, 3);
    wrongs(gauged(1, 0, 0, 2, 1), 0, 0, 0, 0);
    wrongs(gauged(1, 0, 0, 3, 1), 1, 1, 0, 3);
  }

  private static void promise18AllButOneOfEight() {
    wrongs(gauged(0, 0, 1, 2, 3, 4, 5, 6, 7, 8), 7, 127, 0, 255);
    wrongs(gauged(0, 0, 8, 7, 6, 5, 4, 3, 2, 1), 7, 127, 0, 255);
  }

  private static void promise18SurelyAndMaybe() {
    wrongs(rained(10, 10, 99, 10, 10), 1, 4, 4, 4);
    wrongs(gauged(0, 0, 5, 5, 7, 7), 2, 3, 0, 15);
    wrongs(gauged(0, 0, 5, 9, 5, 7, 7), 3, 7, 2, 31);
    wrongs(gauged(0, 0, 5, 5, 5, 7, 9), 2, 24, 24, 24);
  }

  /** Any two of it: FIELDS 0 and 2 need not stand beside each other. */
  private static void promise18AnyTwoOfASet() {
    wrongs(rained(0, 99, 24), 1, 2, 2, 2);
    wrongs(rained(0, 99, 25), 2, 3, 0, 7);
  }

  private static void promise18WhatIs0To3() {
    int[] none = {-1, 4, DEEP, FAR};
    for (int what : none) {
      due(new RainPurse().wrong(what), BEYOND);
      due(rained(0, 99).wrong(what), BEYOND);
    }
  }

  // ---- promise 19

  private static void promise19DaysAre0To16() {
    for (int w = 0; w < 4; w++) {
      RainPurse x = new RainPurse();
      due(x.weather(w, 17), BEYOND);
      due(x.weather(w, -1), BEYOND);
      due(x.weather(w, 0), 0);
      due(x.weather(w, 16), 0);
      due(x.weather(w, 16), 16);
      due(x.weather(w, 0), 16);
      due(x.count(10 + w), 0);
    }
  }

  private static void promise19WeatherIs0To3() {
    RainPurse x = new RainPurse();
    int[] none = {-1, 4, DEEP, FAR};
    for (int w : none) {
      due(x.weather(w, 0), BEYOND);
      due(x.weather(w, 16), BEYOND);
    }
  }

  private static void promise19SixteenTogether() {
    RainPurse x = new RainPurse();
    comes(x, 5, 4, 3, 3);
    due(x.weather(3, 5), STATE);
    due(x.weather(3, 4), 3);
    due(x.weather(0, 6), STATE);
    due(x.weather(0, 5), 5);
    due(x.weather(1, 16), STATE);
    due(x.count(10), 5);
    due(x.count(11), 4);
    due(x.count(12), 3);
    due(x.count(13), 4);
    due(x.told(3), 3);
  }

  private static void promise19BeyondIsAskedAheadOfState() {
    RainPurse x = new RainPurse();
    comes(x, 16);
    due(x.weather(1, 17), BEYOND);
    due(x.weather(4, 1), BEYOND);
    due(x.weather(1, 1), STATE);
    dues(toldOf(x), 2, 0, 1, 0, 0, 0);
  }

  // ---- promise 20

  private static void promise20RainIs0To99() {
    RainPurse x = rained(5, 6);
    for (int w = 0; w < 4; w++) {
      due(x.rain(w, 1, 100), BEYOND);
      due(x.rain(w, 1, -1), BEYOND);
      due(x.rain(w, 1, 99), 0);
      due(x.rain(w, 1, 0), 99);
      due(x.rain(w, 1, w + 1), 0);
    }
    for (int w = 0; w < 4; w++) {
      due(x.rain(w, 1, 0), w + 1);
      due(x.rain(w, 0, 0), 0);
    }
    dues(ofFields(x, 1), 5, 6);
  }

  private static void promise20FieldThereIsNone() {
    due(new RainPurse().rain(0, 0, 0), BEYOND);
    RainPurse x = rained(5, 6);
    due(x.rain(0, 2, 0), BEYOND);
    due(x.rain(0, -1, 0), BEYOND);
    due(x.rain(0, FAR, 0), BEYOND);
    due(x.rain(0, DEEP, 0), BEYOND);
    x.field(1);
    due(x.rain(0, 2, 7), 0);
  }

  private static void promise20WeatherIs0To3() {
    RainPurse x = rained(5);
    due(x.rain(4, 0, 0), BEYOND);
    due(x.rain(-1, 0, 0), BEYOND);
    due(x.rain(3, 0, 0), 0);
  }

  // ---- promise 21

  private static void promise21DaysAre1To60() {
    RainPurse x = rained(5);
    comes(x, 16);
    due(x.days(0), BEYOND);
    due(x.days(61), BEYOND);
    due(x.days(-1), BEYOND);
    due(x.count(2), 0);
    due(x.days(1), 0);
    due(x.count(2), 1);
    due(x.days(60), 0);
    due(x.count(2), 61);
  }

  private static void promise21WeatherIsWhole() {
    RainPurse x = rained(5);
    due(x.days(1), STATE);
    comes(x, 4, 4, 4, 3);
    due(x.days(1), STATE);
    due(x.count(9), 1);
    due(x.fieldIs(0, 1), 5);
    x.weather(3, 4);
    due(x.days(1), 0);
  }

  private static void promise21DayIs9999AtMost() {
    RainPurse x = rained(5);
    goTo(x, 9939);
    int z = x.count(9);
    due(x.days(60), 0);
    due(x.count(2), 9999);
    need(x.count(9) != z, "60 draws left z");
    z = x.count(9);
    due(x.days(1), STATE);
    due(x.days(60), STATE);
    due(x.count(9), z);
    RainPurse y = rained(5);
    goTo(y, 9940);
    z = y.count(9);
    due(y.days(60), STATE);
    due(y.count(2), 9940);
    due(y.count(9), z);
    due(y.days(59), 0);
    due(y.count(2), 9999);
  }

  private static void promise21BeyondIsAskedAheadOfState() {
    RainPurse x = rained(5);
    due(x.days(0), BEYOND);
    due(x.days(61), BEYOND);
    due(x.days(1), STATE);
    goTo(x, 9999);
    due(x.days(0), BEYOND);
    due(x.days(61), BEYOND);
    due(x.days(60), STATE);
    dues(toldOf(x), 4, 0, 2, 0, 0, 0);
  }

  private static void promise21PenniesOfField0() {
    RainPurse none = new RainPurse();
    comes(none, 16);
    due(none.days(60), 0);
    RainPurse x = under(0, 0, 0, 0);
    comes(x, 16);
    x.rain(0, 0, 1);
    due(x.days(1), -2);
    due(x.days(2), -6);
    due(x.fieldIs(1, 3), 3);
  }

  /** Each rest by 16 brings the WEATHER below whose days, all together, it is first. */
  private static void promise21EachRestOfADraw() {
    int[][] days = {{16, 0, 0, 0}, {0, 16, 0, 0}, {0, 0, 16, 0}, {0, 0, 0, 16}, {1, 1, 1, 13},
        {13, 1, 1, 1}, {0, 8, 0, 8}, {8, 0, 8, 0}, {4, 4, 4, 4}, {15, 0, 0, 1}, {1, 15, 0, 0},
        {0, 1, 15, 0}, {0, 0, 1, 15}};
    for (int[] of : days) {
      RainPurse x = rained(0);
      comes(x, of);
      for (int w = 0; w < 4; w++) {
        x.rain(w, 0, 10 + w);
      }
      x.image();
      for (int rest = 0; rest < 16; rest++) {
        x.seed(seedOf(rest));
        due(x.days(1), 0);
        due(x.fieldIs(0, 2), 10 + weatherOf(rest, of));
        x.restore();
      }
    }
  }

  private static int weatherOf(int rest, int[] days) {
    int w = 0;
    int below = days[0];
    while (rest >= below) {
      w++;
      below += days[w];
    }
    return w;
  }

  /** A z from which a draw has such a rest, through an int below 0 for rests that are odd. */
  private static int seedOf(int rest) {
    for (int v = 0; v < 100000; v++) {
      int z = v * 1103515245 + 12345;
      if ((z >>> 8) % 16 == rest && (rest % 2 == 0 || z < 0)) {
        return v;
      }
    }
    throw new IllegalStateException("no seed for " + rest);
  }

  private static void promise21DrawsWrap() {
    RainPurse x = rained(0);
    comes(x, 16);
    due(x.days(1), 0);
    due(x.count(9), 1103527590);
    due(x.days(1), 0);
    // 1103527590 * 1103515245 + 12345, as an int.
    due(x.count(9), (int) (1103527590L * 1103515245L + 12345L));
    x.seed(FAR);
    x.days(1);
    due(x.count(9), (int) (2147483647L * 1103515245L + 12345L));
    x.seed(DEEP);
    x.days(1);
    due(x.count(9), (int) (-2147483648L * 1103515245L + 12345L));
  }

  private static void promise21OneDrawADay() {
    RainPurse x = rained(0);
    comes(x, 3, 4, 5, 4);
    int z = 1;
    for (int i = 0; i < 60; i++) {
      z = z * 1103515245 + 12345;
    }
    x.days(60);
    due(x.count(9), z);
  }

  // ---- promise 22

  private static void promise22AnyNumber() {
    RainPurse x = new RainPurse();
    int[] any = {0, -1, DEEP, FAR, LOW - 1, LOW - 6, 5};
    int was = 1;
    for (int v : any) {
      due(x.seed(v), was);
      due(x.count(9), v);
      was = v;
    }
    dues(toldOf(x), 0, 0, 0, 0, 0, 0);
  }

  // ---- promise 23

  private static void mean(RainPurse x, int field, int above, int below) {
    due(x.mean(field, 0), above);
    due(x.mean(field, 1), below);
  }

  private static void promise23LowestTerms() {
    int[] above = {0, 1, 1, 3, 1, 5, 3, 7, 1, 9, 5, 11, 3, 13, 7, 15, 1};
    int[] below = {1, 16, 8, 16, 4, 16, 8, 16, 2, 16, 8, 16, 4, 16, 8, 16, 1};
    for (int days = 0; days <= 16; days++) {
      RainPurse x = under(0, 0, 0);
      comes(x, 16 - days, days);
      x.rain(1, 0, 9);
      mean(x, 0, above[days], below[days]);
      mean(x, 1, -above[days], below[days]);
    }
  }

  private static void promise23TheLargest() {
    RainPurse x = farApart(8);
    comes(x, 0, 0, 0, 16);
    mean(x, 0, 13986, 1);
    mean(x, 1, -1998, 1);
    read(x, 0, "r*999-999");
    x.weather(3, 0);
    comes(x, 15, 1);
    x.rain(0, 0, 2);
    mean(x, 0, 104895, 8);
  }

  private static void promise23NoughtIs0By1() {
    RainPurse x = under(19, 99);
    comes(x, 7, 9);
    mean(x, 0, 0, 1);
    x.force(-1);
    mean(x, 0, 0, 1);
    RainPurse y = under(0, 0, 0);
    comes(y, 8, 8);
    y.rain(0, 0, 1);
    y.rain(1, 1, 1);
    mean(y, 0, 0, 1);
  }

  private static void promise23RainOfTodayIsNotAsked() {
    RainPurse x = under(0, 99, 0);
    comes(x, 16);
    mean(x, 0, 0, 1);
    x.rain(0, 1, 1);
    mean(x, 0, -1, 1);
    dues(ofFields(x, 1), 99, 0);
  }

  private static void promise23WeatherIsWhole() {
    RainPurse x = under(0, 0, 0);
    due(x.mean(0, 0), STATE);
    comes(x, 0, 7, 8, 0);
    due(x.mean(0, 0), STATE);
    due(x.mean(0, 1), STATE);
    x.weather(1, 8);
    mean(x, 0, 0, 1);
  }

  private static void promise23BeyondIsAskedAheadOfState() {
    RainPurse x = under(0, 0, 0);
    due(x.mean(2, 0), BEYOND);
    due(x.mean(-1, 0), BEYOND);
    due(x.mean(0, 2), BEYOND);
    due(x.mean(0, -1), BEYOND);
    due(x.mean(1, 1), STATE);
    due(new RainPurse().mean(0, 0), BEYOND);
  }

  // ---- promise 24

  private static void promise24NoLawsIsAskedAheadOfState() {
    RainPurse x = new RainPurse();
    due(x.evenest(), NONE);
    comes(x, 16);
    due(x.evenest(), NONE);
    x.law(0);
    due(x.evenest(), 0);
    x.weather(0, 15);
    due(x.evenest(), STATE);
    dues(toldOf(x), 0, 2, 1, 0, 0, 0);
  }

  private static void promise24OfSeveralTheLeast() {
    RainPurse x = rained(0, 0);
    comes(x, 16);
    x.rain(0, 0, 30);
    int[] km = {19, 13, 12, 0, 30};
    for (int v : km) {
      x.law(v);
    }
    due(x.evenest(), 4);
    x.become(4, 0);
    due(x.evenest(), 3);
    x.become(0, 0);
    due(x.evenest(), 0);
  }

  private static void promise24WithoutFieldsAllAreEven() {
    RainPurse x = new RainPurse();
    comes(x, 16);
    for (int i = 0; i < 5; i++) {
      x.law(59);
    }
    due(x.evenest(), 0);
  }

  private static void promise24ItNeedNotBeInForce() {
    RainPurse x = under(19, 0, 0);
    comes(x, 8, 8);
    x.rain(0, 0, 99);
    x.law(11);
    for (int force = -1; force < 2; force++) {
      x.force(force);
      due(x.evenest(), 1);
      due(x.count(3), force);
    }
  }

  /** Squares of the mean, not the mean of squares: what goes to and fro is even. */
  private static void promise24SquaresOfTheMean() {
    RainPurse x = under(0, 0, 0);
    comes(x, 8, 8);
    x.rain(0, 0, 50);
    x.rain(1, 1, 50);
    x.law(19);
    due(x.evenest(), 0);
    x.become(0, 22);
    x.set(1, 0, 2);
    due(x.evenest(), 1);
  }

  /** By LAW 0 they PAY 8, -4, -4; by LAW 1 first 0, -12, 12, then 0, -6, 6. */
  private static void promise24EachFieldCounts() {
    for (int i = 0; i < 3; i++) {
      RainPurse x = rained(0, 0, 0);
      read(x, 0, "w*m");
      x.law(61);
      x.law(15);
      comes(x, 16);
      for (int j = 0; j < 3; j++) {
        x.set(j, 0, j == i ? 4 : 0);
      }
      x.rain(0, i, 10);
      x.rain(0, (i + 1) % 3, 2);
      x.rain(0, (i + 2) % 3, 18);
      due(x.evenest(), 0);
      x.rain(0, (i + 1) % 3, 6);
      x.rain(0, (i + 2) % 3, 14);
      due(x.evenest(), 1);
    }
  }

  private static void promise24TheLargestSquares() {
    RainPurse x = farApart(8);
    comes(x, 16);
    x.law(10);
    due(x.evenest(), 1);
    x.become(1, 60);
    due(x.evenest(), 0);
  }

  // ---- promise 25

  private static void fails(RainPurse x, int field, int b, int n, long above, long below) {
    due(x.fails(field, b, n, 0), above);
    due(x.fails(field, b, n, 1), below);
  }

  private static void promise25PenniesAre0To99999() {
    RainPurse x = farApart(8);
    comes(x, 16);
    due(x.fails(0, -1, 1, 0), LONG_LOW - 1);
    due(x.fails(0, 100000, 1, 0), LONG_LOW - 1);
    fails(x, 0, 0, 1, 1, 1);
    fails(x, 0, 99999, 6, 0, 1);
    fails(x, 0, 13985, 1, 1, 1);
    fails(x, 0, 13986, 1, 0, 1);
    fails(x, 0, 83915, 6, 1, 1);
    fails(x, 0, 83916, 6, 0, 1);
    fails(x, 0, 83915, 5, 0, 1);
  }

  private static void promise25DaysAre1To6() {
    RainPurse x = under(0, 0, 0);
    comes(x, 15, 1);
    x.rain(1, 0, 9);
    due(x.fails(0, 0, 0, 0), LONG_LOW - 1);
    due(x.fails(0, 0, 7, 0), LONG_LOW - 1);
    due(x.fails(0, 0, -1, 1), LONG_LOW - 1);
    fails(x, 0, 0, 1, 1, 16);
    // 1 - (15/16)^n.
    fails(x, 0, 0, 2, 31, 256);
    fails(x, 0, 0, 6, 16777216 - 11390625, 16777216);
    // All six days of six, five of six at least.
    fails(x, 0, 5, 6, 1, 16777216);
    fails(x, 0, 4, 6, 91, 16777216);
    fails(x, 0, 6, 6, 0, 1);
  }

  private static void promise25BelowNoughtNotAtNought() {
    RainPurse x = under(0, 0, 0);
    comes(x, 16);
    x.rain(0, 0, 9);
    fails(x, 0, 1, 1, 0, 1);
    fails(x, 0, 0, 1, 1, 1);
    fails(x, 0, 3, 3, 0, 1);
    fails(x, 0, 2, 3, 1, 1);
    fails(x, 1, 0, 6, 0, 1);
  }

  /** Who was below nought behind a day has failed, whatever there is behind the last. */
  private static void promise25BehindOneOfTheDays() {
    RainPurse x = under(19, 0, 0);
    comes(x, 8, 8);
    x.rain(0, 0, 10);
    x.rain(1, 1, 50);
    // FIELD 0 PAYS 9, or is paid 45.
    fails(x, 0, 0, 2, 1, 2);
    fails(x, 0, 8, 2, 1, 2);
    fails(x, 0, 9, 2, 1, 4);
    fails(x, 0, 17, 2, 1, 4);
    fails(x, 0, 18, 2, 0, 1);
    fails(x, 0, 18, 3, 1, 8);
  }

  private static void promise25PenniesOfTheFieldAreNotAsked() {
    RainPurse x = under(0, 9, 0);
    comes(x, 16);
    x.evening();
    x.rain(0, 0, 9);
    fails(x, 0, 1, 1, 0, 1);
    fails(x, 0, 0, 1, 1, 1);
    due(x.fieldIs(0, 3), -1);
  }

  private static void promise25NothingGoesBy() {
    RainPurse x = under(49, 7, 9);
    comes(x, 8, 8);
    x.rain(0, 0, 99);
    x.fails(0, 5, 6, 0);
    x.stands(1, 6, 5);
    x.book(0, 6, 0);
    x.mean(0, 0);
    dues(ofFields(x, 1), 7, 9);
    dues(ofFields(x, 2), 0, 0);
    dues(ofFields(x, 3), 0, 0);
    due(x.count(2), 0);
    due(x.count(9), 1);
  }

  /** SUM of today counts; with the week's end it is 0. */
  private static void promise25TheWeekEndsAhead() {
    int[] owed = {6, 7, 8, 9, 10, 11, 0};
    for (int day = 1; day <= 6; day++) {
      RainPurse x = under(40, 0, 0);
      comes(x, 16);
      x.rain(0, 0, 10);
      x.set(0, 1, 60);
      x.evening();
      for (int i = 1; i < day; i++) {
        x.set(0, 1, 10);
        x.evening();
      }
      int all = 0;
      for (int n = 1; n <= 6; n++) {
        int since = day + n - 1;
        all += since < 7 ? owed[since - 1] : since - 7;
        fails(x, 0, all, n, 0, 1);
        fails(x, 0, Math.max(0, all - 1), n, 1, 1);
        due(x.stands(0, n, 1), all);
      }
    }
  }

  /** FIELD 0 owes its RAIN and its SUM, and PAYS what it owes, as FIELD 1 owes nothing. */
  private static RainPurse fourWeathers(int day) {
    RainPurse x = under(61, 0, 0);
    x.set(1, 0, 0);
    read(x, 0, "(s+r)*w");
    comes(x, COMES);
    for (int w = 0; w < 4; w++) {
      x.rain(w, 0, RAIN[w]);
    }
    for (int i = 0; i < day; i++) {
      x.set(0, 1, 2);
      x.evening();
    }
    return x;
  }

  /** What n days take from FIELD 0, each row of WEATHERS by itself: rows, and their weights. */
  private static void follow(int day, int sum, int n, int taken, long weight, long[] rows,
      long[] weights) {
    if (n == 0) {
      rows[taken]++;
      weights[taken] += weight;
      return;
    }
    for (int w = 0; w < 4; w++) {
      int then = (day + 1) % 7 == 0 ? 0 : sum + RAIN[w];
      follow(day + 1, then, n - 1, taken + sum + RAIN[w], weight * COMES[w], rows, weights);
    }
  }

  private static void promise25RowsOfFourWeathers() {
    for (int day = 0; day < 7; day++) {
      for (int n = 1; n <= 6; n++) {
        long[] weights = new long[MOST + 1];
        follow(day, 2 * day, n, 0, 1, new long[MOST + 1], weights);
        long all = 1L << 4 * n;
        long failing = all;
        RainPurse x = fourWeathers(day);
        for (int b = 0; b <= MOST; b++) {
          failing -= weights[b];
          long divisor = BigInteger.valueOf(failing).gcd(BigInteger.valueOf(all)).longValue();
          fails(x, 0, b, n, failing / divisor, all / divisor);
        }
      }
    }
  }

  /** Only the last of 4096 rows fails, or only the first stands. */
  private static void promise25TheFirstAndTheLastRow() {
    RainPurse x = under(0, 0, 0);
    comes(x, 13, 1, 1, 1);
    x.rain(3, 0, 9);
    fails(x, 0, 5, 6, 1, 16777216);
    x.rain(1, 0, 9);
    x.rain(2, 0, 9);
    fails(x, 0, 0, 6, 16777216 - 4826809, 16777216);
    x.rain(0, 0, 9);
    x.rain(3, 0, 0);
    fails(x, 0, 0, 6, 16777215, 16777216);
  }

  private static void promise25AskedAgain() {
    RainPurse x = under(0, 0, 0);
    comes(x, 4, 4, 4, 4);
    for (int w = 0; w < 4; w++) {
      x.rain(w, 0, 9);
    }
    fails(x, 0, 5, 6, 1, 1);
    fails(x, 0, 5, 5, 0, 1);
    fails(x, 1, 0, 6, 0, 1);
    x.rain(0, 0, 0);
    fails(x, 0, 5, 6, 729, 4096);
    x.become(0, 19);
    fails(x, 0, 47, 6, 729, 4096);
    x.force(-1);
    fails(x, 0, 0, 6, 0, 1);
    due(x.book(0, 6, 0), 4096);
    x.force(0);
    due(x.book(0, 6, 0), 1);
    due(x.stands(0, 6, 1), 48);
  }

  /** SUM counts, whatever m is; and wherever a TEXT names it. */
  private static void promise25LawsThatAskSums() {
    for (int m = 0; m < 10; m++) {
      RainPurse x = under(40 + m, 0, 0);
      comes(x, 16);
      x.rain(0, 0, 60);
      due(x.stands(0, 3, 1), 3 * 6 * m + 6 + 12);
      x.become(0, 60 + m);
      read(x, 0, "s");
      due(x.stands(0, 3, 1), 60 + 120);
      read(x, 0, "s/10");
      due(x.stands(0, 3, 1), 6 + 12);
      read(x, 0, "m*0+s");
      due(x.stands(0, 3, 1), 60 + 120);
      read(x, 0, "r");
      due(x.stands(0, 3, 1), 180);
    }
  }

  private static void promise25PartIs0Or1() {
    RainPurse x = under(0, 0);
    comes(x, 16);
    int[] none = {-1, 2, DEEP, FAR};
    for (int part : none) {
      due(x.fails(0, 0, 1, part), LONG_LOW - 1);
    }
    due(x.fails(1, 0, 1, 0), LONG_LOW - 1);
    due(x.fails(-1, 0, 1, 0), LONG_LOW - 1);
    dues(toldOf(x), 6, 0, 0, 0, 0, 0);
  }

  private static void promise25BeyondIsAskedAheadOfState() {
    RainPurse x = under(0, 0);
    due(x.fails(0, 0, 1, 0), LONG_LOW - 3);
    comes(x, 15);
    due(x.fails(0, 0, 1, 0), LONG_LOW - 3);
    due(x.fails(0, 0, 7, 0), LONG_LOW - 1);
    due(x.fails(0, 0, 1, 2), LONG_LOW - 1);
    due(x.fails(0, -1, 1, 0), LONG_LOW - 1);
    due(x.fails(1, 0, 1, 0), LONG_LOW - 1);
    dues(toldOf(x), 4, 0, 2, 0, 0, 0);
  }

  // ---- promise 26

  private static void promise26NoMoreThanSoManyHundredths() {
    int[] days = {4, 8, 12};
    for (int d : days) {
      RainPurse x = under(0, 0, 0);
      comes(x, 16 - d, d);
      x.rain(1, 0, 9);
      due(x.stands(0, 1, d * 100 / 16), 0);
      due(x.stands(0, 1, d * 100 / 16 - 1), 1);
    }
  }

  private static void promise26HundredthsAre1To99() {
    RainPurse x = under(0, 0, 0);
    comes(x, 0, 16);
    x.rain(1, 0, 9);
    due(x.stands(0, 1, 0), BEYOND);
    due(x.stands(0, 1, 100), BEYOND);
    due(x.stands(0, 1, 99), 1);
    due(x.stands(0, 1, 1), 1);
    x.weather(1, 15);
    x.weather(0, 1);
    // 15 of 16 is 93.75 hundredths.
    due(x.stands(0, 1, 93), 1);
    due(x.stands(0, 1, 94), 0);
    due(x.stands(0, 1, 99), 0);
  }

  private static void promise26DaysAre1To6() {
    RainPurse x = under(0, 0, 0);
    comes(x, 16);
    x.rain(0, 0, 9);
    due(x.stands(0, 0, 50), BEYOND);
    due(x.stands(0, 7, 50), BEYOND);
    for (int n = 1; n <= 6; n++) {
      due(x.stands(0, n, 50), n);
      due(x.stands(1, n, 50), 0);
    }
  }

  private static void promise26RowsOfFourWeathers() {
    for (int day = 0; day < 7; day++) {
      for (int n = 1; n <= 6; n++) {
        long[] weights = new long[MOST + 1];
        follow(day, 2 * day, n, 0, 1, new long[MOST + 1], weights);
        RainPurse x = fourWeathers(day);
        for (int k = 1; k <= 99; k++) {
          int b = 0;
          long failing = (1L << 4 * n) - weights[0];
          while (failing * 100 > k * (1L << 4 * n)) {
            b++;
            failing -= weights[b];
          }
          due(x.stands(0, n, k), b);
        }
      }
    }
  }

  /** With LAWS as they are no purse need be larger than this one: 99999 always stands. */
  private static void promise26TheLargestPurse() {
    RainPurse x = farApart(8);
    comes(x, 16);
    due(x.stands(0, 6, 1), 83916);
    due(x.stands(0, 1, 99), 13986);
    due(x.stands(1, 6, 1), 0);
    due(x.told(2), 0);
  }

  private static void promise26BeyondIsAskedAheadOfState() {
    RainPurse x = under(0, 0, 0);
    due(x.stands(0, 1, 1), STATE);
    comes(x, 8, 7);
    due(x.stands(0, 1, 1), STATE);
    due(x.stands(0, 1, 0), BEYOND);
    due(x.stands(0, 1, 100), BEYOND);
    due(x.stands(0, 0, 1), BEYOND);
    due(x.stands(0, 7, 1), BEYOND);
    due(x.stands(2, 1, 1), BEYOND);
    due(x.stands(-1, 1, 1), BEYOND);
    due(new RainPurse().stands(0, 1, 1), BEYOND);
    dues(toldOf(x), 6, 0, 2, 0, 0, 0);
  }

  // ---- promise 27

  private static void promise27NoDaysAreOneRow() {
    RainPurse x = under(0, 9, 0);
    due(x.book(0, 0, 0), 1);
    due(x.book(0, 0, 1), 0);
    due(x.book(0, 0, -1), 0);
    x.evening();
    due(x.book(0, 0, -1), 1);
    due(x.book(0, 0, 0), 0);
    due(x.book(1, 0, 1), 1);
  }

  private static void promise27RowsOfAllWeathers() {
    RainPurse x = rained(0);
    comes(x, 1, 1, 1, 1);
    int rows = 1;
    for (int n = 0; n <= 6; n++) {
      due(x.book(0, n, 0), rows);
      due(x.book(0, n, 1), 0);
      rows *= 4;
    }
  }

  private static void promise27OnlyWeathersThatCome() {
    RainPurse x = under(0, 0, 0);
    for (int w = 0; w < 4; w++) {
      x.rain(w, 0, 9);
    }
    due(x.book(0, 1, -1), 0);
    due(x.book(0, 6, -6), 0);
    x.weather(3, 1);
    due(x.book(0, 1, -1), 1);
    due(x.book(0, 6, -6), 1);
    x.weather(0, 15);
    due(x.book(0, 1, -1), 2);
    due(x.book(0, 6, -6), 64);
    x.weather(3, 0);
    due(x.book(0, 6, -6), 1);
  }

  private static void promise27FromPenniesOfToday() {
    RainPurse x = under(0, 9, 0);
    x.evening();
    x.weather(1, 1);
    x.weather(2, 1);
    x.rain(1, 0, 9);
    due(x.book(0, 3, -1), 1);
    due(x.book(0, 3, -2), 3);
    due(x.book(0, 3, -3), 3);
    due(x.book(0, 3, -4), 1);
    due(x.book(0, 3, 0), 0);
    due(x.book(1, 3, 3), 3);
  }

  private static void promise27DaysAre0To6() {
    RainPurse x = rained(0);
    due(x.book(0, -1, 0), BEYOND);
    due(x.book(0, 7, 0), BEYOND);
    due(x.book(0, DEEP, 0), BEYOND);
    due(x.book(0, FAR, 0), BEYOND);
    due(x.book(1, 0, 0), BEYOND);
    due(x.book(-1, 0, 0), BEYOND);
    due(new RainPurse().book(0, 0, 0), BEYOND);
  }

  private static void promise27RowsOfFourWeathersByThemselves() {
    for (int day = 0; day < 7; day++) {
      for (int n = 0; n <= 6; n++) {
        long[] rows = new long[MOST + 1];
        follow(day, 2 * day, n, 0, 1, rows, new long[MOST + 1]);
        RainPurse x = fourWeathers(day);
        int pennies = x.fieldIs(0, 3);
        for (int taken = 0; taken <= MOST; taken++) {
          due(x.book(0, n, pennies - taken), rows[taken]);
        }
      }
    }
  }

  private static void promise27AnyPennies() {
    RainPurse x = rained(0);
    comes(x, 16);
    int[] any = {DEEP, -1000000000, -999999999, 1, 999999999, 1000000000, FAR};
    for (int pennies : any) {
      due(x.book(0, 6, pennies), 0);
    }
    dues(toldOf(x), 0, 0, 0, 0, 0, 0);
  }

  private static void promise27TheWeekEndsAhead() {
    RainPurse x = under(40, 0, 0);
    x.weather(0, 1);
    x.weather(1, 1);
    x.rain(0, 0, 10);
    for (int i = 0; i < 5; i++) {
      x.evening();
    }
    // DAY 5: one inch of DAY 5's rain counts on DAY 6, none of both on DAY 7.
    due(x.book(0, 1, 0), 2);
    due(x.book(0, 2, 0), 2);
    due(x.book(0, 2, -1), 2);
    due(x.book(0, 3, 0), 4);
    due(x.book(0, 3, -1), 4);
    due(x.book(0, 4, -1), 8);
    due(x.book(0, 4, 0), 4);
    due(x.book(0, 4, -2), 4);
  }
}
