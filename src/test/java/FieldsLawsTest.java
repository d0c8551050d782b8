/** The boundaries that promises 1 to 9, and Term 1, name: a test for each. */
public final class FieldsLawsTest extends Bench {
  public static void main(String[] args) {
    runAll(FieldsLawsTest.class, 1, 9);
  }

  // ---- promise 1

  private static void promise01CountsAreAsAtFirst() {
    asAtFirst(new RainPurse());
  }

  private static void asAtFirst(RainPurse x) {
    int[] first = {0, 0, 0, -1, 2, 10, 0, 0, 0, 1, 0, 0, 0, 0};
    for (int what = 0; what < first.length; what++) {
      due(x.count(what), first[what]);
    }
    dues(toldOf(x), 0, 0, 0, 0, 0, 0);
  }

  private static void promise01NoFieldsNoLaws() {
    RainPurse x = new RainPurse();
    due(x.fieldIs(0, 0), BEYOND);
    due(x.lawIs(0, 0), BEYOND);
    due(x.two(), NONE);
    due(x.evenest(), NONE);
    due(x.evening(), 0);
  }

  private static void promise01NoTextsNoTrace() {
    RainPurse x = new RainPurse();
    due(x.untell(0), 0);
    due(x.untell(1), 0);
    due(x.text(0), -10);
    due(x.body(0), NONE);
  }

  private static void promise01NoImage() {
    RainPurse x = new RainPurse();
    due(x.restore(), NONE);
    due(x.image(), 1);
  }

  private static void promise01SheetsAreMissing() {
    RainPurse x = new RainPurse();
    for (int sheet = 0; sheet < 4; sheet++) {
      due(x.put(sheet, 0, 1), NONE);
      due(x.rains(sheet), NONE);
    }
  }

  private static void promise01WeatherBringsNoRain() {
    RainPurse x = rained(5, 5);
    for (int w = 0; w < 4; w++) {
      due(x.rain(w, 0, 9), 0);
      due(x.rain(w, 1, 9), 0);
    }
  }

  private static void promise01ObjectsStandApart() {
    RainPurse other = new RainPurse();
    RainPurse x = under(33, 4, 5);
    x.gauge(0, 0);
    x.gauge(1, 0);
    comes(x, 1, 2, 3, 4);
    x.evening();
    x.seed(0);
    x.tell(1);
    feed(x, "r");
    x.voice(0, 0, 0);
    x.field(21);
    x.image();
    asAtFirst(other);
    due(other.restore(), NONE);
    asAtFirst(new RainPurse());
  }

  // ---- promise 2

  private static void promise02FieldsAreNumbered0To7() {
    RainPurse x = new RainPurse();
    for (int i = 0; i < 8; i++) {
      due(x.field(i), i);
      due(x.count(0), i + 1);
    }
    for (int i = 0; i < 8; i++) {
      due(x.fieldIs(i, 0), i);
    }
  }

  private static void promise02NinthIsFull() {
    RainPurse x = rained(0, 0, 0, 0, 0, 0, 0, 0);
    due(x.field(0), FULL);
    due(x.field(20), FULL);
    due(x.count(0), 8);
    due(x.told(4), 2);
  }

  private static void promise02BeyondIsAskedAheadOfFull() {
    RainPurse x = rained(0, 0, 0, 0, 0, 0, 0, 0);
    due(x.field(21), BEYOND);
    due(x.field(-1), BEYOND);
    due(x.told(4), 0);
  }

  private static void promise02WorthIs0To20() {
    RainPurse x = new RainPurse();
    due(x.field(-1), BEYOND);
    due(x.field(0), 0);
    due(x.field(20), 1);
    due(x.field(21), BEYOND);
    dues(ofFields(x, 0), 0, 20);
  }

  private static void promise02LateFieldHasNothing() {
    RainPurse x = under(19, 99, 50);
    comes(x, 16);
    x.rain(0, 0, 99);
    x.evening();
    x.days(2);
    x.set(1, 1, 99);
    due(x.field(4), 2);
    long[] want = {4, 0, 0, 0};
    for (int what = 0; what < 4; what++) {
      due(x.fieldIs(2, what), want[what]);
    }
    for (int w = 0; w < 4; w++) {
      due(x.rain(w, 2, 1), 0);
    }
  }

  // ---- promise 3

  private static void promise03FieldIsNoneIfEmpty() {
    RainPurse x = new RainPurse();
    for (int what = 0; what < 7; what++) {
      due(x.fieldIs(0, what), BEYOND);
    }
  }

  private static void promise03LawOwes1ForAnyRain() {
    dues(ofFields(under(0, 0, 1, 99), 4), 0, 1, 1);
    dues(ofFields(under(9, 0, 1, 99), 4), 0, 1, 1);
  }

  private static void promise03InchIsCut() {
    dues(ofFields(under(10, 0, 9, 99), 4), 0, 0, 0);
    dues(ofFields(under(11, 9, 10, 19, 20, 99), 4), 0, 1, 1, 2, 9);
    dues(ofFields(under(19, 0, 1, 2, 99), 4), 0, 0, 1, 89);
  }

  private static void promise03WorthyIsCut() {
    RainPurse x = under(29, 9, 10, 99, 99, 99);
    x.set(3, 0, 0);
    x.set(4, 0, 20);
    dues(ofFields(x, 4), 0, 1, 9, 0, 198);
  }

  private static void promise03TurnTurnsAbove50() {
    dues(ofFields(under(39, 0, 49, 50, 51, 99), 4), 0, 44, 45, -45, -89);
    dues(ofFields(under(31, 59, 60), 4), -5, -6);
    dues(ofFields(under(30, 50, 51), 4), 0, 0);
  }

  private static void promise03LongCutsSumByItself() {
    RainPurse x = under(41, 9, 10, 19, 99, 5);
    dues(ofFields(x, 4), 0, 1, 1, 9, 0);
    x.evening();
    dues(ofFields(x, 4), 0, 1, 1, 9, 0);
    // RAIN of 5 tenths and SUM of 5 make an inch together, but each is cut.
    x.set(4, 1, 5);
    due(x.fieldIs(4, 4), 0);
    x.set(2, 1, 11);
    due(x.fieldIs(2, 4), 2);
  }

  private static void promise03LongOfTheLargestSum() {
    RainPurse x = under(49, 99);
    fill(x, 0, 8, 0, 0, 0, 0, 0, 0);
    x.rain(0, 0, 99);
    x.play(0);
    due(x.fieldIs(0, 2), 594);
    x.set(0, 1, 99);
    due(x.fieldIs(0, 4), 89 + 59);
  }

  private static void promise03StoreOwesMWithoutRain() {
    RainPurse x = under(59, 0, 9, 99);
    x.set(2, 0, 20);
    dues(ofFields(x, 4), 9, 9, 207);
    dues(ofFields(under(50, 0, 9, 10), 4), 0, 0, 1);
  }

  private static void promise03ToldWithoutAText() {
    dues(ofFields(under(69, 0, 9, 10, 99), 4), -9, -9, -8, 0);
    dues(ofFields(under(60, 0, 9, 10, 99), 4), 0, 0, 1, 9);
  }

  private static void promise03DuesAreHeld() {
    RainPurse x = under(60, 0);
    String[] texts = {"998", "999", "1000", "9999", "0-998", "0-999", "0-1000", "0-9999"};
    int[] want = {998, 999, 999, 999, -998, -999, -999, -999};
    for (int i = 0; i < texts.length; i++) {
      due(read(x, 0, texts[i]), 1);
      due(x.fieldIs(0, 4), want[i]);
    }
  }

  private static void promise03WithoutALawAllOwe0() {
    RainPurse x = under(59, 99, 0);
    due(x.fieldIs(0, 4), 18);
    x.force(-1);
    dues(ofFields(x, 4), 0, 0);
    dues(ofFields(x, 5), 0, 0);
  }

  private static void promise03OneFieldPaysNothing() {
    RainPurse x = under(19, 99);
    due(x.fieldIs(0, 4), 89);
    due(x.fieldIs(0, 5), 0);
  }

  private static void promise03PaysTimesAsManyAsThereAre() {
    dues(ofFields(under(0, 0, 9), 5), -1, 1);
    dues(ofFields(under(0, 0, 0, 0, 0, 0, 0, 0, 9), 5), -1, -1, -1, -1, -1, -1, -1, 7);
    dues(ofFields(farApart(8), 5), 13986, -1998, -1998, -1998, -1998, -1998, -1998, -1998);
    dues(ofFields(farApart(2), 5), 1998, -1998);
  }

  private static void promise03CropWithoutAText() {
    RainPurse x = rained(99, 0, 99);
    x.set(0, 0, 20);
    x.set(2, 0, 0);
    dues(ofFields(x, 6), 1980, 0, 0);
  }

  private static void promise03CropIsHeld() {
    RainPurse x = rained(0);
    due(crop(x, "9998"), 9998);
    due(crop(x, "9999"), 9999);
    due(crop(x, "9999+1"), 9999);
    due(crop(x, "9999*9999"), 9999);
    due(crop(x, "0-9998"), -9998);
    due(crop(x, "0-9999"), -9999);
    due(crop(x, "0-9999-1"), -9999);
    due(crop(x, "0-9999*9999"), -9999);
  }

  private static void promise03CropAsksNoLaw() {
    RainPurse x = under(33, 7);
    due(x.fieldIs(0, 6), 7);
    x.force(-1);
    due(x.fieldIs(0, 6), 7);
  }

  // ---- promise 4

  private static void promise04WorthIs0To20() {
    RainPurse x = rained(7, 8);
    due(x.set(0, 0, 0), 1);
    due(x.set(0, 0, 20), 0);
    due(x.set(0, 0, 21), BEYOND);
    due(x.set(0, 0, -1), BEYOND);
    due(x.set(0, 0, 99), BEYOND);
    dues(ofFields(x, 0), 20, 1);
    dues(ofFields(x, 1), 7, 8);
  }

  private static void promise04RainIs0To99() {
    RainPurse x = rained(7, 8);
    due(x.set(1, 1, 0), 8);
    due(x.set(1, 1, 99), 0);
    due(x.set(1, 1, 100), BEYOND);
    due(x.set(1, 1, -1), BEYOND);
    dues(ofFields(x, 0), 1, 1);
    dues(ofFields(x, 1), 7, 99);
  }

  private static void promise04OnlyWorthAndRainAreSet() {
    RainPurse x = rained(7);
    due(x.set(0, -1, 0), BEYOND);
    due(x.set(0, 2, 0), BEYOND);
    due(x.set(0, 3, 0), BEYOND);
  }

  private static void promise04FieldThereIsNone() {
    due(new RainPurse().set(0, 0, 0), BEYOND);
    RainPurse x = rained(7, 8);
    due(x.set(2, 0, 0), BEYOND);
    due(x.set(-1, 1, 0), BEYOND);
    due(x.field(0), 2);
    due(x.set(2, 0, 9), 0);
  }

  // ---- promise 5

  private static void promise05LawsAreNumbered0To4() {
    RainPurse x = new RainPurse();
    int[] km = {0, 69, 9, 60, 34};
    for (int i = 0; i < 5; i++) {
      due(x.law(km[i]), i);
      due(x.count(1), i + 1);
    }
    for (int i = 0; i < 5; i++) {
      due(x.lawIs(i, 0), km[i] / 10);
      due(x.lawIs(i, 1), km[i] % 10);
    }
  }

  private static void promise05SixthIsFull() {
    RainPurse x = fiveLaws();
    due(x.law(0), FULL);
    due(x.law(69), FULL);
    due(x.count(1), 5);
  }

  private static void promise05BeyondIsAskedAheadOfFull() {
    RainPurse x = fiveLaws();
    due(x.law(70), BEYOND);
    due(x.law(-1), BEYOND);
    due(x.told(4), 0);
  }

  private static RainPurse fiveLaws() {
    RainPurse x = new RainPurse();
    for (int i = 0; i < 5; i++) {
      x.law(10 * i + i);
    }
    return x;
  }

  private static void promise05KindIs0To6AndM0To9() {
    RainPurse x = new RainPurse();
    due(x.law(-1), BEYOND);
    due(x.law(70), BEYOND);
    due(x.law(DEEP), BEYOND);
    due(x.law(FAR), BEYOND);
    due(x.count(1), 0);
    due(x.law(69), 0);
  }

  // ---- promise 6

  private static void promise06NoLawIfEmpty() {
    RainPurse x = rained(3);
    for (int what = 0; what < 4; what++) {
      due(x.lawIs(0, what), BEYOND);
    }
  }

  private static void promise06OnlyOneIsInForce() {
    RainPurse x = fiveLaws();
    for (int force = -1; force < 5; force++) {
      x.force(force);
      for (int law = 0; law < 5; law++) {
        due(x.lawIs(law, 2), law == force ? 1 : 0);
      }
    }
  }

  private static void promise06AllOweByItTogether() {
    RainPurse none = new RainPurse();
    none.law(59);
    due(none.lawIs(0, 3), 0);
    RainPurse x = rained(51, 99, 0, 1, 0, 0, 0, 0);
    x.law(0);
    x.law(39);
    x.law(59);
    due(x.lawIs(0, 3), 3);
    due(x.lawIs(1, 3), -45 - 89);
    due(x.lawIs(2, 3), 5 + 9 + 8 * 9);
    due(farApart(8).lawIs(0, 3), 999 - 7 * 999);
  }

  // ---- promise 7

  private static void promise07EachKindAsEach() {
    int[][] under = {{0}, {1, 0}, {2, 0}, {3, 1, 0}, {4, 1, 0}, {5, 2, 0}, {6, 0}};
    for (int own = 0; own < 7; own++) {
      RainPurse x = new RainPurse();
      x.law(10 * own + 9 - own);
      for (int kind = 0; kind < 7; kind++) {
        boolean is = false;
        for (int k : under[own]) {
          is = is || k == kind;
        }
        due(x.as(0, kind), is ? 9 - own : KIND);
      }
    }
  }

  private static void promise07AsOfMThatIs0() {
    RainPurse x = new RainPurse();
    x.law(0);
    x.law(50);
    due(x.as(0, 0), 0);
    due(x.as(1, 2), 0);
  }

  private static void promise07KindIs0To6() {
    RainPurse x = fiveLaws();
    due(x.as(0, -1), BEYOND);
    due(x.as(0, 7), BEYOND);
    due(x.as(4, FAR), BEYOND);
    due(x.as(4, DEEP), BEYOND);
    dues(toldOf(x), 4, 0, 0, 0, 0, 0);
  }

  private static void promise07BeyondIsAskedAheadOfKind() {
    RainPurse x = fiveLaws();
    due(x.as(5, 6), BEYOND);
    due(x.as(-1, 6), BEYOND);
    due(x.as(0, 6), KIND);
  }

  // ---- promise 8

  private static void promise08KmIs0To69() {
    RainPurse x = fiveLaws();
    due(x.become(4, 0), 44);
    due(x.become(4, 69), 0);
    due(x.become(4, 70), BEYOND);
    due(x.become(4, -1), BEYOND);
    due(x.become(4, 69), 69);
    due(x.become(0, 9), 0);
    due(x.become(0, 60), 9);
    due(x.become(3, 33), 33);
  }

  private static void promise08LawThereIsNone() {
    due(new RainPurse().become(0, 0), BEYOND);
    RainPurse x = fiveLaws();
    due(x.become(5, 0), BEYOND);
    due(x.become(-1, 0), BEYOND);
    due(x.become(FAR, FAR), BEYOND);
  }

  private static void promise08WhatIsInForceStays() {
    RainPurse x = under(19, 99, 0);
    due(x.become(0, 0), 19);
    due(x.count(3), 0);
    due(x.lawIs(0, 2), 1);
    due(x.fieldIs(0, 4), 1);
    x.law(11);
    due(x.become(1, 12), 11);
    due(x.count(3), 0);
    due(x.fieldIs(0, 4), 1);
  }

  // ---- promise 9

  private static void promise09ForceIsMinus1ToTheLast() {
    RainPurse x = fiveLaws();
    due(x.force(4), -1);
    due(x.force(5), BEYOND);
    due(x.force(-2), BEYOND);
    due(x.force(DEEP), BEYOND);
    due(x.force(FAR), BEYOND);
    due(x.count(3), 4);
    due(x.force(4), 4);
    due(x.force(0), 4);
    due(x.force(-1), 0);
    due(x.force(-1), -1);
  }

  private static void promise09WithoutLawsThereIsNone() {
    RainPurse x = new RainPurse();
    due(x.force(0), BEYOND);
    due(x.force(-1), -1);
    due(x.force(-2), BEYOND);
  }
}
