/** The boundaries that promises 13 to 16 name, with what of Terms 1 and 3 they stand on. */
public final class EveningsSettlingTest extends Bench {
  public static void main(String[] args) {
    runAll(EveningsSettlingTest.class, 13, 16);
  }

  // ---- promise 13

  private static void promise13DayIs9999AtMost() {
    RainPurse x = under(19, 50, 0);
    goTo(x, 9998);
    x.set(0, 1, 10);
    int pennies = x.fieldIs(0, 3);
    due(x.evening(), 1);
    due(x.count(2), 9999);
    due(x.fieldIs(0, 3), pennies - 9);
    due(x.evening(), STATE);
    due(x.count(2), 9999);
    due(x.told(3), 1);
  }

  private static void promise13StateLeavesAll() {
    RainPurse x = under(19, 50, 0);
    goTo(x, 9999);
    x.set(0, 1, 10);
    int sum = x.fieldIs(0, 2);
    due(x.evening(), STATE);
    due(x.fieldIs(0, 1), 10);
    due(x.fieldIs(0, 2), sum);
    due(x.fieldIs(0, 3), 0);
    due(x.fieldIs(0, 5), 9);
  }

  private static void promise13TheWeekEndsWithDays7And14() {
    RainPurse x = rained(0, 0);
    int sum = 0;
    for (int day = 1; day <= 22; day++) {
      x.set(1, 1, day);
      due(x.evening(), 0);
      due(x.count(2), day);
      sum = day == 7 || day == 14 || day == 21 ? 0 : sum + day;
      due(x.fieldIs(0, 2), 0);
      due(x.fieldIs(1, 2), sum);
      due(x.fieldIs(1, 1), 0);
    }
    due(sum, 22);
  }

  private static void promise13TheLastDaysOfAll() {
    RainPurse x = rained(0);
    goTo(x, 9995);
    for (int day = 9996; day <= 9999; day++) {
      x.set(0, 1, 9);
      due(x.evening(), 0);
      // 9996 is 7 times 1428.
      due(x.fieldIs(0, 2), 9 * (day - 9996));
    }
  }

  private static void promise13HowManyPaid() {
    due(new RainPurse().evening(), 0);
    due(under(0, 9).evening(), 0);
    due(under(0, 9, 9).evening(), 0);
    due(under(0, 0, 0).evening(), 0);
    due(under(0, 9, 0).evening(), 1);
    due(under(0, 9, 9, 9, 9, 9, 9, 9, 0).evening(), 7);
    due(under(0, 9, 0, 0, 0, 0, 0, 0, 0).evening(), 1);
    due(rained(9, 0).evening(), 0);
    due(paying(0, 1, 0, -1).evening(), 1);
  }

  private static void promise13PenniesAreLessByWhatItPays() {
    RainPurse x = farApart(8);
    for (int day = 1; day <= 3; day++) {
      due(x.evening(), 1);
      due(x.fieldIs(0, 3), -13986 * day);
      due(x.fieldIs(7, 3), 1998 * day);
    }
  }

  private static void promise13SumIsMoreByRainOfAll() {
    RainPurse x = rained(0, 99, 1);
    x.evening();
    dues(ofFields(x, 1), 0, 0, 0);
    dues(ofFields(x, 2), 0, 99, 1);
    x.set(2, 1, 98);
    x.evening();
    dues(ofFields(x, 2), 0, 99, 99);
  }

  private static void promise13PaysBySumsAheadOfTheEvening() {
    RainPurse x = under(40, 99, 0);
    due(x.evening(), 0);
    due(x.fieldIs(0, 3), 0);
    due(x.evening(), 1);
    due(x.fieldIs(0, 3), -9);
  }

  private static void promise13WhatElseThereIsStays() {
    RainPurse x = under(17, 30, 0);
    x.tell(4);
    feed(x, "r");
    x.seed(6);
    x.evening();
    int[] want = {2, 1, 1, 0, 2, 10, 1, 1, 0, 6, 0, 0, 0, 0};
    for (int what = 0; what < want.length; what++) {
      due(x.count(what), want[what]);
    }
    dues(ofFields(x, 0), 1, 1);
  }

  // ---- promise 14

  private static void settles(RainPurse x, int fewest, int heaps, int first) {
    due(x.settle(0), fewest);
    due(x.settle(1), heaps);
    due(x.settle(2), first);
  }

  private static void promise14NothingToSettle() {
    settles(new RainPurse(), 0, 0, 0);
    settles(under(19, 99), 0, 0, 0);
    settles(under(0, 5, 5, 5), 0, 0, 0);
    settles(rained(5, 0, 9), 0, 0, 0);
  }

  private static void promise14Two() {
    settles(paying(3, -3), 1, 1, 3);
    settles(paying(-3, 0, 3), 1, 1, 5);
    settles(paying(0, 0, 0, 0, 0, 0, 1, -1), 1, 1, 192);
  }

  private static void promise14EightInOneHeap() {
    settles(under(0, 9, 0, 0, 0, 0, 0, 0, 0), 7, 1, 255);
    settles(farApart(8), 7, 1, 255);
    settles(paying(10, 10, 10, 10, 10, -17, -17, -16), 7, 1, 255);
  }

  private static void promise14EightInFourHeaps() {
    settles(paying(1, -1, 2, -2, 3, -3, 4, -4), 4, 4, 3);
    settles(paying(5, 5, 5, 5, -5, -5, -5, -5), 4, 4, 17);
  }

  private static void promise14WhoPaysNothingIsInNoHeap() {
    settles(paying(0, 2, 0, -2, 0, 3, -3, 0), 2, 2, 10);
    settles(paying(7, 0, 0, 0, 0, 0, 0, -7), 1, 1, 129);
  }

  /** With FIRST taken away less HEAPS may be left than could be. */
  private static void promise14MostHeapsAreNotThoseWithFirst() {
    settles(paying(1, 2, -3, 3, -1, -2), 3, 3, 7);
    settles(paying(1, 2, 3, 4, -4, -3, -2, -1), 4, 4, 21);
  }

  private static void promise14HeapsOfUnlikeSizes() {
    settles(paying(1, 2, -3, 4, 5, -9), 4, 2, 7);
    settles(paying(5, 4, -9, 3, -2, -1), 4, 2, 7);
    settles(paying(4, -1, -3, 3, -2, -1, 0, 0), 4, 2, 7);
    settles(paying(6, 6, -4, -4, -4), 4, 1, 31);
    settles(paying(6, -1, -2, -3, 6, -4, -2, 0), 5, 2, 15);
  }

  /** The least as bits: 7 is less than 24, though that set has fewer. */
  private static void promise14FirstIsTheLeastAsBits() {
    settles(paying(1, 2, -3, 8, -8), 3, 2, 7);
    settles(paying(8, -3, 2, 1, -8), 3, 2, 14);
    settles(paying(8, 7, -7, -8), 2, 2, 6);
  }

  private static void promise14AskedAgain() {
    RainPurse x = under(0, 0, 9, 0, 0, 0, 0, 0, 0);
    settles(x, 7, 1, 255);
    x.become(0, 60);
    read(x, 0, "r-9");
    int[] rain = {9, 9, 11, 7, 9, 10, 9, 8};
    for (int i = 0; i < 8; i++) {
      x.set(i, 1, rain[i]);
    }
    settles(x, 2, 2, 12);
    x.force(-1);
    settles(x, 0, 0, 0);
    x.force(0);
    x.set(2, 1, 9);
    x.set(3, 1, 9);
    settles(x, 1, 1, 160);
  }

  private static void promise14WhatIs0To2() {
    RainPurse x = paying(3, -3);
    int[] none = {-1, 3, DEEP, FAR};
    for (int what : none) {
      due(x.settle(what), BEYOND);
      due(new RainPurse().settle(what), BEYOND);
    }
  }

  // ---- promise 15

  private static void promise15LessIs0To99() {
    RainPurse x = under(19, 99, 0);
    due(x.night(0, 0), 0);
    due(x.night(0, 99), 89);
    due(x.night(0, 100), BEYOND);
    due(x.night(0, -1), BEYOND);
    due(x.night(1, 99), 0);
  }

  private static void promise15RainIs0AtLeast() {
    RainPurse x = under(19, 30, 0);
    due(x.night(0, 29), 27);
    due(x.night(0, 30), 27);
    due(x.night(0, 31), 27);
    due(x.night(0, 99), 27);
    // Below 0 a TEXT would see it.
    RainPurse y = under(60, 30, 0);
    due(read(y, 0, "r*10"), 1);
    due(y.night(0, 29), 290);
    due(y.night(0, 99), 300);
    due(y.night(1, 99), 0);
  }

  private static void promise15LessForAllOthersToo() {
    due(under(0, 5).night(0, 5), 0);
    due(under(0, 5, 0).night(0, 4), 0);
    due(under(0, 5, 0).night(0, 5), 1);
    due(under(0, 5, 0, 0, 0, 0, 0, 0, 0).night(0, 5), 7);
    due(under(0, 5, 0, 0, 0, 0, 0, 0, 9).night(7, 9), 7);
  }

  private static void promise15TurnMayPayMore() {
    RainPurse x = under(39, 51, 0);
    due(x.night(0, 0), 0);
    due(x.night(0, 1), -45 - 45);
    due(x.night(0, 51), -45);
  }

  private static void promise15SumStays() {
    RainPurse x = under(49, 99, 0);
    x.evening();
    x.set(0, 1, 10);
    due(x.night(0, 10), 9);
  }

  private static void promise15WithoutALaw() {
    due(rained(99, 0).night(0, 99), 0);
  }

  private static void promise15NothingIsPoured() {
    RainPurse x = under(19, 30, 0);
    x.night(0, 30);
    dues(ofFields(x, 1), 30, 0);
    dues(ofFields(x, 5), 27, -27);
  }

  private static void promise15FieldThereIsNone() {
    due(new RainPurse().night(0, 0), BEYOND);
    RainPurse x = under(19, 30, 0);
    due(x.night(2, 0), BEYOND);
    due(x.night(-1, 0), BEYOND);
  }

  // ---- promise 16

  private static void promise16LessThanTwo() {
    due(new RainPurse().two(), NONE);
    RainPurse x = under(0, 5);
    due(x.two(), NONE);
    due(x.field(0), 1);
    due(x.two(), 1);
    due(x.told(2), 1);
  }

  private static void promise16OfSeveralTheLeast() {
    due(rained(9, 8, 7, 6, 5, 4, 3, 2).two(), 1);
    due(under(0, 9, 0, 9, 0).two(), 2);
    due(under(0, 9, 0, 0, 0).two(), 12);
    due(paying(9, 6, 3, 0, -3, -6, -9).two(), 1);
  }

  private static void promise16TheLastTwoOfEight() {
    due(paying(40, 30, 20, 10, -10, -20, -30, -40).two(), 1);
    due(paying(49, 37, 26, 14, 1, -36, -43, -48).two(), 67);
    due(paying(5, 40, -30, 30, -15, -45, 20, -5).two(), 7);
  }

  private static void promise16OnlyTheTwoCount() {
    // Of all together 1 and 2 PAY least, but 0 and 3 are alike.
    due(paying(20, 3, -3, 20, -40).two(), 3);
    due(paying(-40, 20, 3, -3, 20).two(), 14);
  }

  private static void promise16DifferencesBothWays() {
    due(under(39, 50, 51, 99, 98).two(), 23);
    due(farApart(3).two(), 12);
  }
}
