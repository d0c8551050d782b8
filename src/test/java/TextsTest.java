/** The boundaries that promises 10 to 12, and Term 2, name: a test for each. */
public final class TextsTest extends Bench {
  private static final int DUES = 0;
  private static final int CROP = 1;
  private static final String JOINS = "|&<=>+-*/%";

  public static void main(String[] args) {
    runAll(TextsTest.class, 10, 12);
  }

  // ---- promise 10

  private static void promise10OneToEightBytesCome() {
    RainPurse x = new RainPurse();
    due(x.feed(-1, 0), BEYOND);
    due(x.feed(-1, -1), BEYOND);
    due(x.feed(-1, 9), BEYOND);
    due(x.feed(-1, DEEP), BEYOND);
    due(x.feed(-1, FAR), BEYOND);
    due(x.count(6), 0);
    int bytes = 0;
    for (int n = 1; n <= 8; n++) {
      bytes += n;
      due(x.feed(0, n), bytes);
      due(x.count(6), bytes);
    }
  }

  private static void promise10TheLowestByteIsFirst() {
    RainPurse x = rained(7);
    // "8765-432", where '8' is 0x38, and "1".
    due(x.feed(0x3233342d35363738L, 8), 8);
    due(x.feed(0x31, 1), 9);
    due(x.text(CROP), 1);
    due(x.fieldIs(0, 6), 4444);
    x.feed(0x2d38, 2);
    x.feed(0x31, 1);
    due(x.text(CROP), 1);
    due(x.fieldIs(0, 6), 7);
  }

  private static void promise10OnlyTheLowestBytesCome() {
    RainPurse x = rained(7);
    due(x.feed(0x7878787878787872L, 1), 1);
    due(x.text(CROP), 1);
    due(x.fieldIs(0, 6), 7);
    due(x.feed(0xff31000000000031L, 1), 1);
    due(x.text(CROP), 1);
    due(x.fieldIs(0, 6), 1);
  }

  private static void promise10TheHighestByteComesToo() {
    RainPurse x = rained(7);
    // "11+1+1+1"; then its last byte has the word's sign, and is no digit.
    due(x.feed(0x312b312b312b3131L, 8), 8);
    due(x.text(CROP), 1);
    due(x.fieldIs(0, 6), 14);
    due(x.feed(0xb12b312b312b3131L, 8), 8);
    due(x.text(CROP), -17);
  }

  private static void promise10SixtyBytesAndNoMore() {
    RainPurse x = new RainPurse();
    for (int i = 1; i <= 7; i++) {
      due(x.feed(0, 8), 8 * i);
    }
    for (int n = 5; n <= 8; n++) {
      due(x.feed(0, n), FULL);
    }
    due(x.count(6), 56);
    due(x.feed(0, 3), 59);
    due(x.feed(0, 2), FULL);
    due(x.feed(0, 1), 60);
    due(x.feed(0, 1), FULL);
    due(x.feed(0, 8), FULL);
    due(x.count(6), 60);
    due(x.told(4), 7);
  }

  private static void promise10FullTapeTakesNothingOfAWord() {
    RainPurse x = rained(7);
    feed(x, "r+0+0+0+0+0+0+0+0+0+0+0+0+0+0+0+0+0+0+0+0+0+0+0+0+0+0");
    due(x.count(6), 53);
    due(x.feed(0x302b302b302b302bL, 8), FULL);
    due(x.text(CROP), 1);
    due(x.fieldIs(0, 6), 7);
  }

  private static void promise10BeyondIsAskedAheadOfFull() {
    RainPurse x = new RainPurse();
    feed(x, "012345678901234567890123456789012345678901234567890123456789");
    due(x.feed(0, 9), BEYOND);
    due(x.feed(0, 0), BEYOND);
    dues(toldOf(x), 2, 0, 0, 0, 0, 0);
  }

  private static void promise10TheTapeHasRoomAgainBehindAText() {
    RainPurse x = new RainPurse();
    feed(x, "012345678901234567890123456789012345678901234567890123456789");
    due(x.text(DUES), -14);
    for (int i = 1; i <= 7; i++) {
      due(x.feed(0, 8), 8 * i);
    }
    due(x.feed(0, 4), 60);
  }

  // ---- promise 11

  private static void promise11AnEmptyTapeIsFault0() {
    RainPurse x = rained(7);
    due(read(x, CROP, "r+1"), 1);
    due(x.text(CROP), -10);
    due(x.text(DUES), -10);
    due(x.fieldIs(0, 6), 8);
  }

  private static void promise11EachByteAlone() {
    for (int use = DUES; use <= CROP; use++) {
      String whole = "0123456789rw" + (use == DUES ? "sm" : "d");
      RainPurse x = new RainPurse();
      for (int sign = 0; sign < 256; sign++) {
        x = sign == 128 ? new RainPurse() : x;
        due(x.feed(sign, 1), 1);
        due(x.text(use), whole.indexOf(sign) >= 0 ? 1 : sign == '!' || sign == '(' ? -11 : -10);
      }
    }
  }

  private static void promise11EachByteBehindAName() {
    RainPurse x = new RainPurse();
    for (int sign = 0; sign < 256; sign++) {
      x = sign == 128 ? new RainPurse() : x;
      x.feed('r' | sign << 8, 2);
      due(x.text(DUES), JOINS.indexOf(sign) >= 0 ? -12 : -11);
    }
  }

  private static void promise11EachByteBehindANumberInBrackets() {
    RainPurse x = new RainPurse();
    for (int sign = 0; sign < 256; sign++) {
      x = sign == 128 ? new RainPurse() : x;
      x.feed('(' | '1' << 8 | sign << 16, 3);
      boolean goesOn = JOINS.indexOf(sign) >= 0 || "0123456789".indexOf(sign) >= 0;
      due(x.text(DUES), sign == ')' ? 1 : goesOn ? -13 : -12);
    }
  }

  private static void promise11EachByteBehindAJoin() {
    for (int join = 0; join < JOINS.length(); join++) {
      RainPurse x = new RainPurse();
      for (int sign = 33; sign < 127; sign++) {
        x.feed('7' | JOINS.charAt(join) << 8 | sign << 16, 3);
        boolean whole = "0123456789rwsm".indexOf(sign) >= 0;
        due(x.text(DUES), whole ? 1 : sign == '!' || sign == '(' ? -13 : -12);
      }
    }
  }

  private static void promise11NumbersHave1To4Digits() {
    RainPurse x = rained(7);
    due(crop(x, "0"), 0);
    due(crop(x, "9"), 9);
    due(crop(x, "10"), 10);
    due(crop(x, "999"), 999);
    due(crop(x, "9999"), 9999);
    due(crop(x, "0000"), 0);
    due(crop(x, "0012"), 12);
    due(crop(x, "00012"), -14);
    due(crop(x, "12345"), -14);
    due(crop(x, "1+12345"), -16);
    due(crop(x, "1234r"), -14);
    due(crop(x, "1234(1)"), -14);
  }

  private static void promise11FiveAreOpenAtOnce() {
    RainPurse x = rained(7);
    String[] five = {"!!!!!r", "(((((r)))))", "!(!(!r))", "(!(!(r)))", "((((!r))))", "!!!!(r)"};
    for (String text : five) {
      due(read(x, CROP, text), 1);
      due(read(x, DUES, text), 1);
    }
    String[] six = {"!!!!!!r", "((((((r))))))", "!(!(!(r)))", "(((((!r)))))", "!!!!!(r)"};
    for (String text : six) {
      due(read(x, CROP, text), -10 - 5);
      due(read(x, DUES, text), -10 - 5);
    }
  }

  private static void promise11WhatIsClosedIsOpenNoMore() {
    RainPurse x = rained(7);
    due(crop(x, "(r)+(r)+(r)+(r)+(r)+(r)+(r)"), 49);
    due(crop(x, "!0+!0+!0+!0+!0+!0+!0"), 7);
    due(crop(x, "(((((r)+!0))))"), 8);
    due(crop(x, "(((((r)+!!0))))"), -19);
    due(crop(x, "((((!r+(r)))))"), 7);
    due(crop(x, "!!!!!r+!!!!!r+(((((r)))))"), 7);
    due(crop(x, "((((!!r"), -15);
    due(crop(x, "!!!!!r*!!!!!!r"), -22);
  }

  private static void promise11ATapeThatIsFull() {
    RainPurse x = rained(7);
    String ones = "1+1+1+1+1+1+1+1+1+1+1+1+1+1+1+1+1+1+1+1+1+1+1+1+1+1+1+1+1";
    due(crop(x, "10+" + ones), 39);
    due(crop(x, "!0" + "+1".repeat(29)), 30);
    due(crop(x, "!0" + "-1".repeat(29)), -28);
    due(read(x, CROP, "1+" + ones + ")"), -10 - 59);
    due(read(x, CROP, "1+" + ones + "+"), -10 - 60);
    due(crop(x, "1+" + ones), 30);
    due(crop(x, "((" + ones.substring(0, 55) + "))+"), -70);
    due(crop(x, "((((" + ones.substring(0, 51) + "))))*"), -70);
    due(crop(x, "((((" + ones.substring(0, 51) + "))))"), 26);
  }

  private static void promise11ItEndsTooEarly() {
    RainPurse x = rained(7);
    String[] early = {"", "(", "!", "r+", "(r", "((r)", "!(", "r<", "r|", "r&", "1*", "1%", "1/",
        "(1=2", "1>2|"};
    for (String text : early) {
      due(read(x, CROP, text), -10 - text.length());
      due(x.count(6), 0);
    }
  }

  private static void promise11FaultsAtAPlace() {
    RainPurse x = rained(7);
    String[] texts = {" r", "r ", "r+ 1", ")", "()", "(r))", "r)", "rr", "r1", "1r", "-1", "+1",
        "1--1", "1||2", "1<2<3", "1=2=3", "1>2<3", "1<2+3>4", "1<2&3>4=5", "1!", "!", "!)",
        "(1<2>3)", "r\n", "R", "1.5", "1==2", "1<=2", "!=1", "(!+r)"};
    int[] places = {0, 1, 2, 0, 1, 3, 1, 1, 1, 1, 0, 0,
        2, 2, 3, 3, 3, 5, 7, 1, 1, 1,
        4, 1, 0, 1, 2, 2, 1, 2};
    due(texts.length, places.length);
    for (int i = 0; i < texts.length; i++) {
      due(read(x, DUES, texts[i]), -10 - places[i]);
      due(read(x, CROP, texts[i]), -10 - places[i]);
    }
  }

  private static void promise11OneComparisonInEachB() {
    RainPurse x = rained(7);
    due(crop(x, "1<2&2<3"), 1);
    due(crop(x, "1<2|3<2"), 1);
    due(crop(x, "(1<2)<3"), 1);
    due(crop(x, "3>(2>1)"), 1);
    due(crop(x, "(5>4)=(4>3)"), 1);
    due(crop(x, "(5>4)=4"), 0);
  }

  private static void promise11NamesOfEachUse() {
    RainPurse x = under(64, 7);
    x.set(0, 0, 3);
    comes(x, 16);
    x.rain(0, 0, 20);
    x.days(2);
    x.set(0, 1, 7);
    int[] dues = {7, 3, 40, 4};
    for (int i = 0; i < 4; i++) {
      due(read(x, DUES, "rwsm".substring(i, i + 1)), 1);
      due(x.fieldIs(0, 4), dues[i]);
    }
    due(read(x, DUES, "d"), -10);
    due(crop(x, "r"), 7);
    due(crop(x, "w"), 3);
    due(crop(x, "d"), 2);
    due(crop(x, "s"), -10);
    due(crop(x, "m"), -10);
  }

  private static void promise11EachNameAtItsEdges() {
    RainPurse x = under(69, 99);
    x.set(0, 0, 20);
    due(read(x, DUES, "r*w*0+m"), 1);
    due(x.fieldIs(0, 4), 9);
    due(read(x, DUES, "r+w"), 1);
    due(x.fieldIs(0, 4), 119);
    x.set(0, 0, 0);
    x.set(0, 1, 0);
    due(x.fieldIs(0, 4), 0);
    goTo(x, 9999);
    due(crop(x, "d"), 9999);
    due(crop(x, "d-9998"), 1);
  }

  private static void promise11IntsWrap() {
    RainPurse x = rained(7);
    due(crop(x, "2048*1024*1024<0"), 1);
    due(crop(x, "2048*1024*1024-1>0"), 1);
    due(crop(x, "4096*1024*1024"), 0);
    due(crop(x, "4096*1024*1024+5"), 5);
    due(crop(x, "2048*1024*1024-1+1<0"), 1);
    due(crop(x, "0-2048*1024*1024<0"), 1);
    due(crop(x, "0-2048*1024*1024-1>0"), 1);
    due(crop(x, "2048*1024*1024*2"), 0);
    due(crop(x, "9999*9999*9999%9999"), -2714);
    due(crop(x, "9999*9999*9999%1000"), -969);
    due(crop(x, "9999*9999*9999/9999/9999"), -10);
    due(crop(x, "9999*9999*9999*9999%1000"), 1);
    RainPurse y = under(60, 7);
    due(read(y, DUES, "9999*9999*9999"), 1);
    due(y.fieldIs(0, 4), -999);
  }

  private static void promise11TheLeastIntByMinus1() {
    RainPurse x = rained(7);
    due(crop(x, "2048*1024*1024/(0-1)<0"), 1);
    due(crop(x, "2048*1024*1024/(0-1)"), -9999);
    due(crop(x, "2048*1024*1024%(0-1)"), 0);
  }

  private static void promise11By0Is0() {
    RainPurse x = rained(7);
    due(crop(x, "7/0"), 0);
    due(crop(x, "7%0"), 0);
    due(crop(x, "0/0"), 0);
    due(crop(x, "0%0"), 0);
    due(crop(x, "7/(r-7)+3"), 3);
    due(crop(x, "7%(r-7)+3"), 3);
    due(crop(x, "1|1/0"), 1);
    due(crop(x, "0&1/0"), 0);
  }

  private static void promise11QuotientsAreCutToward0() {
    RainPurse x = rained(7);
    due(crop(x, "7/2"), 3);
    due(crop(x, "(0-7)/2"), -3);
    due(crop(x, "7/(0-2)"), -3);
    due(crop(x, "(0-7)/(0-2)"), 3);
    due(crop(x, "(0-1)/2"), 0);
    due(crop(x, "7%3"), 1);
    due(crop(x, "(0-7)%3"), -1);
    due(crop(x, "7%(0-3)"), 1);
    due(crop(x, "(0-7)%(0-3)"), -1);
  }

  private static void promise11TruthIs1Or0() {
    RainPurse x = rained(7);
    String[] texts = {"0|0", "0|5", "5|0", "5|6", "0&0", "0&5", "5&0", "5&6", "1<2", "2<2", "3<2",
        "1=2", "2=2", "3=2", "1>2", "2>2", "3>2", "!0", "!1", "!5", "!!5", "!(0-1)", "(0-1)|0",
        "(0-1)&(0-2)", "4&1", "2&4"};
    int[] want = {0, 1, 1, 1, 0, 0, 0, 1, 1, 0, 0,
        0, 1, 0, 0, 0, 1, 1, 0, 0, 1, 0, 1,
        1, 1, 1};
    due(texts.length, want.length);
    for (int i = 0; i < texts.length; i++) {
      due(crop(x, texts[i]), want[i]);
    }
  }

  private static void promise11WhatJoinsTighterComesFirst() {
    RainPurse x = rained(7);
    String[] texts = {"1|1&0", "0&1|1", "1&2<1", "0<1&1", "1<1+1", "2+1>2", "1+2*3", "2*3+1",
        "7-6/2", "9-7%4", "!0*5", "!1+5", "2-!0", "(1+2)*3", "!(1+2)", "9-4-3", "9-4+3", "64/4/2",
        "64/4*2", "64%10/3", "2*7%4", "1<2=0&1", "!0<2", "(1|0)+1"};
    int[] want = {1, 1, 0, 1, 1, 1, 7, 7,
        4, 6, 5, 5, 1, 9, 0, 2, 8, 8,
        32, 1, 2, -13, 1, 2};
    due(texts.length, want.length);
    for (int i = 0; i < texts.length; i++) {
      due(crop(x, texts[i]), want[i]);
    }
  }

  private static void promise11OneAheadIsReplaced() {
    RainPurse x = rained(7);
    due(crop(x, "r*w+1+2+3"), 13);
    due(crop(x, "2"), 2);
    due(x.untell(CROP), 1);
    due(x.fieldIs(0, 6), 7);
  }

  private static void promise11AFaultLeavesTheOneAhead() {
    RainPurse x = under(60, 7);
    due(read(x, DUES, "r+2"), 1);
    due(read(x, CROP, "r+3"), 1);
    due(read(x, DUES, "1+2+3+4+5+6+7+"), -24);
    due(read(x, CROP, "r*w*r*w*r*w)"), -21);
    due(x.fieldIs(0, 4), 9);
    due(x.fieldIs(0, 6), 10);
    due(x.count(6), 0);
    dues(toldOf(x), 0, 0, 0, 0, 0, 0);
  }

  private static void promise11BeyondLeavesTheTape() {
    RainPurse x = rained(7);
    feed(x, "r+5");
    int[] none = {-1, 2, DEEP, FAR};
    for (int use : none) {
      due(x.text(use), BEYOND);
      due(x.count(6), 3);
    }
    due(x.text(CROP), 1);
    due(x.count(6), 0);
    due(x.fieldIs(0, 6), 12);
  }

  private static void promise11UsesStandApart() {
    RainPurse x = under(65, 7);
    due(read(x, DUES, "3"), 1);
    due(x.fieldIs(0, 6), 7);
    due(read(x, CROP, "4"), 1);
    due(x.fieldIs(0, 4), 3);
    due(x.fieldIs(0, 6), 4);
  }

  private static void promise11OnlyToldOnesOweDues() {
    for (int kind = 0; kind < 7; kind++) {
      RainPurse x = under(10 * kind + 1, 10);
      int without = x.fieldIs(0, 4);
      due(read(x, DUES, "77"), 1);
      due(x.fieldIs(0, 4), kind == 6 ? 77 : without);
    }
  }

  // ---- promise 12

  private static void promise12OneIfThereWas() {
    RainPurse x = new RainPurse();
    for (int use = DUES; use <= CROP; use++) {
      due(x.untell(use), 0);
      due(read(x, use, "0"), 1);
      due(x.untell(use), 1);
      due(x.untell(use), 0);
    }
  }

  private static void promise12TheOtherUseStays() {
    RainPurse x = under(60, 70);
    due(read(x, DUES, "3"), 1);
    due(read(x, CROP, "4"), 1);
    due(x.untell(DUES), 1);
    due(x.fieldIs(0, 4), 7);
    due(x.fieldIs(0, 6), 4);
    due(read(x, DUES, "3"), 1);
    due(x.untell(CROP), 1);
    due(x.fieldIs(0, 4), 3);
    due(x.fieldIs(0, 6), 70);
  }

  private static void promise12UseThereIsNone() {
    RainPurse x = rained(7);
    due(read(x, CROP, "4"), 1);
    int[] none = {-1, 2, DEEP, FAR};
    for (int use : none) {
      due(x.untell(use), BEYOND);
    }
    due(x.fieldIs(0, 6), 4);
  }

  private static void promise12TheTapeStays() {
    RainPurse x = rained(7);
    due(read(x, CROP, "4"), 1);
    feed(x, "5");
    due(x.untell(CROP), 1);
    due(x.count(6), 1);
    due(x.text(CROP), 1);
    due(x.fieldIs(0, 6), 5);
  }
}
