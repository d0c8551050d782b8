/** Each promise by hand: ordinary inputs, the edges that the document names, wrong inputs. */
public final class PromiseTest extends Bench {
  private static void promise(int number, String name) {
    about("promise " + number + " " + name);
  }

  public static void main(String[] args) {
    newObject();
    fields();
    laws();
    owing();
    tape();
    texts();
    textValues();
    evenings();
    daysEnd();
    settling();
    nightAndTwo();
    gauges();
    weather();
    draws();
    means();
    purses();
    weekAhead();
    voices();
    sheets();
    moves();
    sheetsAtWork();
    images();
    tellings();
    countsAndErrors();
    end(PromiseTest.class);
  }

  private static void newObject() {
    promise(1, "a new object");
    RainPurse x = new RainPurse();
    int[] first = {0, 0, 0, -1, 2, 10, 0, 0, 0, 1, 0, 0, 0, 0};
    for (int i = 0; i < first.length; i++) {
      due(x.count(i), first[i]);
    }
    for (int k = 1; k <= 6; k++) {
      due(x.told(k), 0);
    }
    due(x.fieldIs(0, 0), BEYOND);
    due(x.lawIs(0, 0), BEYOND);
    due(x.restore(), NONE);
    due(x.untell(0), 0);
    due(x.untell(1), 0);
    for (int i = 0; i < 4; i++) {
      due(x.put(i, 0, 1), NONE);
    }
    due(x.put(4, 0, 1), BEYOND);
  }

  private static void fields() {
    promise(2, "field");
    RainPurse x = new RainPurse();
    due(x.field(-1), BEYOND);
    due(x.field(21), BEYOND);
    for (int i = 0; i < 8; i++) {
      due(x.field(i == 0 ? 20 : 0), i);
    }
    due(x.field(0), FULL);
    due(x.field(21), BEYOND);
    due(x.count(0), 8);
    promise(3, "fieldIs");
    for (int what = 1; what < 7; what++) {
      due(x.fieldIs(0, what), 0);
    }
    due(x.fieldIs(0, 0), 20);
    due(x.fieldIs(0, 7), BEYOND);
    due(x.fieldIs(0, -1), BEYOND);
    due(x.fieldIs(8, 0), BEYOND);
    due(x.fieldIs(-1, 0), BEYOND);
    due(x.fieldIs(FAR, DEEP), BEYOND);
    promise(4, "set");
    due(x.set(1, 0, 20), 0);
    due(x.set(1, 0, 7), 20);
    due(x.set(1, 0, 21), BEYOND);
    due(x.set(1, 0, -1), BEYOND);
    due(x.set(1, 1, 99), 0);
    due(x.set(1, 1, 21), 99);
    due(x.set(1, 1, 100), BEYOND);
    due(x.set(1, 1, -1), BEYOND);
    due(x.set(1, 2, 0), BEYOND);
    due(x.set(1, -1, 0), BEYOND);
    due(x.set(8, 0, 0), BEYOND);
    due(x.set(-1, 1, 0), BEYOND);
    due(x.fieldIs(1, 0), 7);
    due(x.fieldIs(1, 1), 21);
    due(x.fieldIs(1, 6), 147);
  }

  private static void laws() {
    promise(5, "law");
    RainPurse x = rained(10, 0);
    due(x.law(-1), BEYOND);
    due(x.law(70), BEYOND);
    due(x.law(69), 0);
    due(x.law(0), 1);
    due(x.law(14), 2);
    due(x.law(38), 3);
    due(x.law(52), 4);
    due(x.law(0), FULL);
    due(x.law(70), BEYOND);
    due(x.count(1), 5);
    promise(6, "lawIs");
    due(x.lawIs(0, 0), 6);
    due(x.lawIs(0, 1), 9);
    due(x.lawIs(0, 2), 0);
    due(x.lawIs(0, 3), 1 - 9 - 9);
    due(x.lawIs(2, 3), 4);
    due(x.lawIs(2, 4), BEYOND);
    due(x.lawIs(2, -1), BEYOND);
    due(x.lawIs(5, 0), BEYOND);
    due(x.lawIs(-1, 0), BEYOND);
    promise(7, "as");
    int[][] under = {{6, 0}, {0}, {1, 0}, {3, 1, 0}, {5, 2, 0}};
    int[] m = {9, 0, 4, 8, 2};
    for (int law = 0; law < 5; law++) {
      for (int kind = 0; kind < 7; kind++) {
        int want = KIND;
        for (int k : under[law]) {
          want = k == kind ? m[law] : want;
        }
        due(x.as(law, kind), want);
      }
    }
    due(x.as(0, 7), BEYOND);
    due(x.as(0, -1), BEYOND);
    due(x.as(5, 0), BEYOND);
    due(x.as(-1, 0), BEYOND);
    promise(8, "become");
    due(x.become(0, 47), 69);
    due(x.as(0, 1), 7);
    due(x.as(0, 4), 7);
    due(x.as(0, 3), KIND);
    due(x.become(0, 70), BEYOND);
    due(x.become(0, -1), BEYOND);
    due(x.become(5, 0), BEYOND);
    due(x.become(0, 0), 47);
    promise(9, "force");
    due(x.force(2), -1);
    due(x.lawIs(2, 2), 1);
    due(x.fieldIs(0, 4), 4);
    due(x.become(2, 10), 14);
    due(x.lawIs(2, 2), 1);
    due(x.fieldIs(0, 4), 0);
    due(x.force(5), BEYOND);
    due(x.force(-2), BEYOND);
    due(x.force(4), 2);
    due(x.lawIs(2, 2), 0);
    due(x.force(-1), 4);
    due(x.force(0), -1);
    due(new RainPurse().force(0), BEYOND);
  }

  private static void owing() {
    promise(3, "fieldIs: OWES, PAYS");
    RainPurse x = rained(57, 50, 0, 9);
    x.set(0, 0, 13);
    x.law(9);
    x.force(0);
    int[][] want = {
      {9, 1, 1, 0, 1}, {13, 17, 15, 0, 2}, {23, 74, 5, 0, 0}, {33, -17, 15, 0, 2},
      {43, 17, 15, 0, 2}, {53, 77, 8, 3, 3}, {63, 2, 2, -3, -3}
    };
    for (int[] row : want) {
      x.become(0, row[0]);
      int all = row[1] + row[2] + row[3] + row[4];
      due(x.lawIs(0, 3), all);
      for (int i = 0; i < 4; i++) {
        due(x.fieldIs(i, 4), row[i + 1]);
        due(x.fieldIs(i, 5), row[i + 1] * 4 - all);
      }
    }
    x.become(0, 39);
    x.set(0, 1, 51);
    due(x.fieldIs(0, 4), -45);
    x.set(0, 1, 50);
    due(x.fieldIs(0, 4), 45);
    x.become(0, 43);
    x.set(0, 1, 57);
    x.evening();
    due(x.fieldIs(0, 4), 5);
    x.set(0, 1, 10);
    due(x.fieldIs(0, 4), 8);
    due(x.fieldIs(3, 4), 0);
    x.force(-1);
    due(x.fieldIs(0, 4), 0);
    due(x.fieldIs(0, 5), 0);
  }

  private static void tape() {
    promise(10, "feed");
    RainPurse x = new RainPurse();
    due(x.feed(0, 0), BEYOND);
    due(x.feed(0, 9), BEYOND);
    due(x.feed(0, -1), BEYOND);
    due(x.feed(0x2a72, 2), 2);
    due(x.feed(0xffffffffffffff77L, 1), 3);
    due(x.text(1), 1);
    due(x.count(6), 0);
    x.field(5);
    x.set(0, 1, 30);
    due(x.fieldIs(0, 6), 150);
    for (int i = 1; i <= 7; i++) {
      due(x.feed(-1, 8), 8 * i);
    }
    due(x.feed(-1, 5), FULL);
    due(x.feed(-1, 9), BEYOND);
    due(x.count(6), 56);
    due(x.feed(-1, 4), 60);
    due(x.feed(-1, 1), FULL);
    due(x.text(2), BEYOND);
    due(x.count(6), 60);
    due(x.text(0), -10);
    due(x.count(6), 0);
    due(x.feed(0x6d6d6d6d6d6d6d72L, 8), 8);
    due(x.text(0), -11);
  }

  private static void texts() {
    promise(11, "text");
    RainPurse x = new RainPurse();
    due(x.text(0), -10);
    due(x.text(-1), BEYOND);
    String[] right = {
      "r", "0", "9999", "0000", "!r", "!!!!!r", "(((((r)))))", "!(!(!r))", "1|2&3<4+5*6",
      "(1<2)<3", "1<2|3=4&5>6", "(r+1)*(w-2)%(3)", "((((!1))))", "!1+!!2", "1+2-3+4*5/6%7"
    };
    for (String text : right) {
      due(read(x, 0, text), 1);
      due(read(x, 1, text), 1);
    }
    String[] wrongs = {
      "", "+", "r r", "rr", "12345", "1<2<3", "1=2>3", "()", "(r", "(r))", "r+", "r+*", "1r",
      "r1", "!!!!!!r", "((((((r", "!(!(!(r", "-1", "1 ", "(1<2=3)", "r!", "r(", "x", "R", "1|",
      "1||2", "1<", "1<|"
    };
    int[] faults = {
      0, 0, 1, 1, 4, 3, 3, 1, 2, 3, 2, 2, 1,
      1, 5, 5, 5, 0, 1, 4, 1, 1, 0, 0, 2,
      2, 2, 2
    };
    for (int i = 0; i < wrongs.length; i++) {
      due(read(x, 0, wrongs[i]), -10 - faults[i]);
      due(read(x, 1, wrongs[i]), -10 - faults[i]);
      due(x.count(6), 0);
    }
    due(read(x, 0, "r+d"), -12);
    due(read(x, 0, "s+m"), 1);
    due(read(x, 1, "r+d"), 1);
    due(read(x, 1, "r+m"), -12);
    due(read(x, 1, "s"), -10);
    StringBuilder most = new StringBuilder("r*");
    for (int i = 0; i < 29; i++) {
      most.append("1+");
    }
    due(most.length(), 60);
    due(read(x, 0, most.toString()), -70);
    most.setLength(59);
    due(read(x, 0, most.toString()), 1);
    feed(x, "1");
    x.feed(200, 1);
    due(x.text(0), -11);
    promise(12, "untell");
    due(x.untell(0), 1);
    due(x.untell(0), 0);
    due(x.untell(1), 1);
    due(x.untell(1), 0);
    due(x.untell(2), BEYOND);
    due(x.untell(-1), BEYOND);
  }

  private static void textValues() {
    promise(11, "text: what it is worth");
    RainPurse x = rained(37);
    x.set(0, 0, 6);
    due(crop(x, "r"), 37);
    due(crop(x, "w"), 6);
    due(crop(x, "d"), 0);
    due(crop(x, "2+3*4-5"), 9);
    due(crop(x, "9-4-3"), 2);
    due(crop(x, "100/7/2"), 7);
    due(crop(x, "(0-7)/2"), -3);
    due(crop(x, "(0-7)%4"), -3);
    due(crop(x, "7/0+5%0+1"), 1);
    due(crop(x, "r>36"), 1);
    due(crop(x, "r<37"), 0);
    due(crop(x, "r=37"), 1);
    due(crop(x, "5&6"), 1);
    due(crop(x, "5&0"), 0);
    due(crop(x, "0|7"), 1);
    due(crop(x, "0|0"), 0);
    due(crop(x, "0&0|1"), 1);
    due(crop(x, "1|0&0"), 1);
    due(crop(x, "!5+3"), 3);
    due(crop(x, "!0+3"), 4);
    due(crop(x, "!!9"), 1);
    due(crop(x, "!(r<w)*100"), 100);
    due(crop(x, "1+1<1+2"), 1);
    due(crop(x, "2<2"), 0);
    due(crop(x, "2>2"), 0);
    due(crop(x, "2=3"), 0);
    due(crop(x, "1&1"), 1);
    due(crop(x, "0&1"), 0);
    due(crop(x, "(1|0)*7"), 7);
    due(crop(x, "007*2"), 14);
    due(crop(x, "9999+1"), 9999);
    due(crop(x, "0-9999-1"), -9999);
    due(crop(x, "9999*9999*9999/9999/9999"), wrapped());
    due(crop(x, "9999*9999*9999*9999*9999>0"), 9999 * 9999 * 9999 * 9999 * 9999 > 0 ? 1 : 0);
    due(crop(x, "r+"), -12);
    due(x.fieldIs(0, 6), 9999 * 9999 * 9999 * 9999 * 9999 > 0 ? 1 : 0);
    x.untell(1);
    due(x.fieldIs(0, 6), 222);
    x.law(64);
    x.force(0);
    due(x.fieldIs(0, 4), -1);
    due(read(x, 0, "r*1000+w"), 1);
    due(x.fieldIs(0, 4), 999);
    due(read(x, 0, "w-r*1000"), 1);
    due(x.fieldIs(0, 4), -999);
    due(read(x, 0, "m*10+w+s"), 1);
    due(x.fieldIs(0, 4), 46);
    x.evening();
    due(x.fieldIs(0, 4), 83);
    due(crop(x, "d*7+r"), 7);
    x.become(0, 13);
    due(x.fieldIs(0, 4), 0);
    x.become(0, 60);
    due(x.fieldIs(0, 4), 43);
    x.untell(0);
    due(x.fieldIs(0, 4), 0);
  }

  /** What ints that wrap make of 9999 * 9999 * 9999 / 9999 / 9999. */
  private static int wrapped() {
    int cube = 9999 * 9999 * 9999;
    return cube / 9999 / 9999;
  }

  private static void evenings() {
    promise(13, "evening");
    RainPurse x = rained(20, 10, 0);
    x.law(10);
    x.law(15);
    x.force(1);
    due(x.evening(), 1);
    due(x.fieldIs(0, 3), -15);
    due(x.fieldIs(1, 3), 0);
    due(x.fieldIs(2, 3), 15);
    due(x.fieldIs(0, 2), 20);
    due(x.fieldIs(0, 1), 0);
    due(x.fieldIs(0, 0), 1);
    due(x.count(2), 1);
    due(x.evening(), 0);
    x.set(0, 1, 99);
    x.set(1, 1, 98);
    due(x.evening(), 2);
    due(x.fieldIs(0, 2), 119);
    for (int day = 4; day <= 6; day++) {
      due(x.evening(), 0);
      due(x.count(2), day);
    }
    due(x.fieldIs(0, 2), 119);
    x.set(2, 1, 3);
    due(x.evening(), 1);
    due(x.count(2), 7);
    for (int i = 0; i < 3; i++) {
      due(x.fieldIs(i, 2), 0);
    }
    due(x.fieldIs(0, 3) + x.fieldIs(1, 3) + x.fieldIs(2, 3), 0);
    RainPurse small = rained(1, 0);
    small.law(0);
    small.force(0);
    due(small.evening(), 1);
    due(small.fieldIs(0, 3), -1);
    due(small.set(0, 1, 0), 0);
    due(small.set(0, 1, 3), 0);
    RainPurse none = new RainPurse();
    due(none.evening(), 0);
    due(none.count(2), 1);
  }

  private static void daysEnd() {
    promise(13, "evening: the last DAY");
    RainPurse x = rained(5);
    x.weather(3, 16);
    x.rain(3, 0, 7);
    for (int i = 0; i < 166; i++) {
      due(x.days(60), 0);
    }
    due(x.count(2), 9960);
    due(x.days(40), STATE);
    due(x.count(2), 9960);
    int z = x.count(9);
    x.image();
    due(x.days(39), 0);
    due(x.count(2), 9999);
    due(x.restore(), 9960);
    due(x.days(38), 0);
    due(x.count(9) == z ? 1 : 0, 0);
    x.image();
    due(x.evening(), 0);
    due(x.count(2), 9999);
    due(x.evening(), STATE);
    due(x.days(1), STATE);
    due(x.set(0, 1, 5), 0);
    due(x.evening(), STATE);
    due(x.fieldIs(0, 1), 5);
    due(x.restore(), 9998);
    promise(35, "play: the last DAY");
    x.sheet(0, 8, 3);
    due(x.play(0), 1);
    due(x.count(2), 9999);
    due(x.play(0), 0);
    due(x.told(3), 4);
    promise(25, "fails: behind the last DAY");
    x.law(19);
    x.force(0);
    x.field(0);
    due(x.fails(0, 0, 6, 0), 1);
    due(x.book(0, 6, x.fieldIs(0, 3) - 36), 1);
  }

  private static void settling() {
    promise(14, "settle");
    RainPurse x = rained(10, 10, 0, 0);
    for (int what = 0; what < 3; what++) {
      due(x.settle(what), 0);
    }
    due(x.settle(3), BEYOND);
    due(x.settle(-1), BEYOND);
    for (int what = 0; what < 3; what++) {
      due(new RainPurse().settle(what), 0);
    }
    x.law(0);
    x.force(0);
    due(x.fieldIs(0, 5), 2);
    due(x.settle(0), 2);
    due(x.settle(1), 2);
    due(x.settle(2), 5);
    RainPurse y = paying(6, -1, -2, -3, 0, 5, -5);
    due(y.settle(0), 4);
    due(y.settle(1), 2);
    due(y.settle(2), 15);
    y = paying(0, 3, 4, -7, 2, -2);
    due(y.settle(0), 3);
    due(y.settle(1), 2);
    due(y.settle(2), 14);
    y = paying(1, 2, 3, 4, -1, -2, -3, -4);
    due(y.settle(0), 4);
    due(y.settle(1), 4);
    due(y.settle(2), 17);
    y = paying(0, 0, 0);
    due(y.settle(0), 0);
    due(y.settle(2), 0);
  }

  private static void nightAndTwo() {
    promise(15, "night");
    RainPurse x = rained(40, 60, 5);
    due(x.night(0, 40), 0);
    x.law(35);
    x.force(0);
    due(x.night(0, 0), 0);
    due(x.night(0, 10), 10);
    due(x.night(0, 40), 40);
    due(x.night(0, 99), 40);
    due(x.night(1, 10), -110);
    due(x.fieldIs(1, 1), 60);
    due(x.night(2, 5), 4);
    due(x.night(0, 100), BEYOND);
    due(x.night(0, -1), BEYOND);
    due(x.night(3, 0), BEYOND);
    due(x.night(-1, 0), BEYOND);
    RainPurse alone = rained(40);
    alone.law(19);
    alone.force(0);
    due(alone.night(0, 40), 0);
    promise(16, "two");
    due(alone.two(), NONE);
    due(new RainPurse().two(), NONE);
    due(rained(4, 9).two(), 1);
    due(x.two(), 2);
    x.become(0, 15);
    due(x.two(), 1);
    x.set(2, 1, 50);
    due(x.two(), 2);
    x.set(2, 1, 55);
    due(x.two(), 12);
    x.force(-1);
    due(x.two(), 1);
    RainPurse y = paying(9, -9, 4, 7, -5, 1);
    due(y.two(), 3);
  }

  private static void gauges() {
    promise(17, "gauge");
    RainPurse x = new RainPurse();
    due(x.gauge(0, 99), 2);
    due(x.gauge(0, 0), 99);
    due(x.gauge(1, 99), 10);
    due(x.gauge(1, 0), 99);
    due(x.gauge(0, -1), BEYOND);
    due(x.gauge(0, 100), BEYOND);
    due(x.gauge(1, 100), BEYOND);
    due(x.gauge(2, 0), BEYOND);
    due(x.gauge(-1, 0), BEYOND);
    due(x.count(4), 0);
    due(x.count(5), 0);
    promise(18, "wrong");
    for (int what = 0; what < 4; what++) {
      due(x.wrong(what), 0);
    }
    due(x.wrong(4), BEYOND);
    due(x.wrong(-1), BEYOND);
    RainPurse y = rained(10, 24, 34);
    due(y.wrong(0), 0);
    due(y.wrong(3), 0);
    y.set(1, 1, 25);
    y.set(2, 1, 38);
    // FIELDS 0 and 1 differ by 15, one more than twice OFF and SPREAD; 0 and 2 by 28 of 24.
    due(y.wrong(0), 1);
    due(y.wrong(1), 1);
    due(y.wrong(2), 1);
    due(y.wrong(3), 1);
    y.set(2, 1, 34);
    due(y.wrong(0), 1);
    due(y.wrong(1), 1);
    due(y.wrong(2), 0);
    due(y.wrong(3), 3);
    y.set(2, 1, 99);
    due(y.wrong(0), 2);
    due(y.wrong(1), 3);
    due(y.wrong(2), 0);
    due(y.wrong(3), 7);
    y.gauge(0, 33);
    due(y.wrong(0), 1);
    due(y.wrong(1), 1);
    due(y.wrong(2), 0);
    due(y.wrong(3), 5);
    y.gauge(0, 35);
    due(y.wrong(0), 0);
  }

  private static void weather() {
    promise(19, "weather");
    RainPurse x = rained(1, 2);
    due(x.weather(0, 16), 0);
    due(x.weather(1, 1), STATE);
    due(x.weather(0, 10), 16);
    due(x.weather(3, 6), 0);
    due(x.weather(3, 7), STATE);
    due(x.weather(3, 6), 6);
    due(x.weather(2, 0), 0);
    due(x.count(10), 10);
    due(x.count(13), 6);
    due(x.weather(4, 0), BEYOND);
    due(x.weather(-1, 0), BEYOND);
    due(x.weather(0, -1), BEYOND);
    due(x.weather(0, 17), BEYOND);
    promise(20, "rain");
    due(x.rain(0, 0, 99), 0);
    due(x.rain(0, 0, 0), 99);
    due(x.rain(3, 1, 7), 0);
    due(x.rain(3, 1, 8), 7);
    due(x.rain(4, 0, 1), BEYOND);
    due(x.rain(-1, 0, 1), BEYOND);
    due(x.rain(0, 2, 1), BEYOND);
    due(x.rain(0, -1, 1), BEYOND);
    due(x.rain(0, 0, 100), BEYOND);
    due(x.rain(0, 0, -1), BEYOND);
    due(x.fieldIs(0, 1), 1);
  }

  private static void draws() {
    promise(21, "days");
    RainPurse x = rained(50, 50);
    x.law(0);
    x.force(0);
    due(x.days(1), STATE);
    x.weather(0, 4);
    x.weather(2, 5);
    x.weather(3, 6);
    due(x.days(1), STATE);
    x.weather(2, 6);
    due(x.days(0), BEYOND);
    due(x.days(61), BEYOND);
    due(x.days(-1), BEYOND);
    due(x.count(9), 1);
    due(x.fieldIs(0, 1), 50);
    x.rain(0, 0, 1);
    x.rain(2, 1, 1);
    x.rain(1, 0, 1);
    int z = 1;
    int pennies = 0;
    for (int day = 0; day < 60; day++) {
      z = z * 1103515245 + 12345;
      int rest = (z >>> 8) % 16;
      pennies += rest < 4 ? -1 : rest < 10 ? 1 : 0;
      due(x.days(1), pennies);
      due(x.count(9), z);
      due(x.fieldIs(0, 1), 0);
    }
    due(x.count(2), 60);
    promise(22, "seed");
    due(x.seed(DEEP), z);
    due(x.seed(-1), DEEP);
    due(x.seed(1), -1);
    due(x.told(1), 3);
    int again = x.days(60);
    due(again, 2 * pennies);
    RainPurse none = new RainPurse();
    none.weather(1, 16);
    due(none.days(60), 0);
    due(none.count(2), 60);
  }

  private static void means() {
    promise(23, "mean");
    RainPurse x = rained(9, 9);
    x.law(19);
    x.law(10);
    due(x.mean(0, 0), STATE);
    x.weather(0, 4);
    x.weather(1, 12);
    due(x.mean(0, 0), 0);
    due(x.mean(0, 1), 1);
    x.force(0);
    due(x.mean(0, 0), 0);
    x.rain(0, 0, 10);
    due(x.mean(0, 0), 9);
    due(x.mean(0, 1), 4);
    due(x.mean(1, 0), -9);
    due(x.mean(1, 1), 4);
    due(x.fieldIs(0, 1), 9);
    due(x.mean(2, 0), BEYOND);
    due(x.mean(-1, 0), BEYOND);
    due(x.mean(0, 2), BEYOND);
    due(x.mean(0, -1), BEYOND);
    x.weather(1, 11);
    due(x.mean(2, 0), BEYOND);
    due(x.mean(0, 1), STATE);
    promise(24, "evenest");
    due(x.evenest(), STATE);
    x.weather(1, 12);
    due(x.evenest(), 1);
    x.law(10);
    due(x.evenest(), 1);
    x.become(0, 0);
    due(x.evenest(), 1);
    x.become(1, 9);
    due(x.evenest(), 2);
    x.become(2, 0);
    due(x.evenest(), 0);
    x.force(-1);
    due(x.evenest(), 0);
    due(new RainPurse().evenest(), NONE);
    promise(23, "mean: SUMS of today");
    RainPurse y = rained(70, 0);
    y.law(40);
    y.force(0);
    y.evening();
    y.weather(3, 16);
    due(y.mean(0, 0), 7);
    due(y.mean(1, 0), -7);
  }

  private static void purses() {
    promise(25, "fails");
    RainPurse x = rained(1, 2);
    due(x.fails(0, 0, 1, 0), LONG_LOW - 3);
    due(x.stands(0, 1, 50), STATE);
    x.law(10);
    x.become(0, 15);
    x.force(0);
    x.weather(0, 4);
    x.weather(1, 12);
    x.rain(0, 0, 20);
    x.rain(1, 1, 10);
    // FIELD 0 PAYS 10 in 4 days of 16, and is paid 5 in 12.
    due(x.fails(0, 0, 1, 0), 1);
    due(x.fails(0, 0, 1, 1), 4);
    due(x.fails(0, 9, 1, 0), 1);
    due(x.fails(0, 10, 1, 0), 0);
    due(x.fails(0, 10, 1, 1), 1);
    due(x.fails(0, 0, 2, 0), 7);
    due(x.fails(0, 0, 2, 1), 16);
    due(x.fails(0, 10, 2, 0), 1);
    due(x.fails(0, 10, 2, 1), 16);
    due(x.fails(1, 0, 1, 0), 3);
    due(x.fails(1, 99999, 6, 0), 0);
    due(x.fails(0, 59, 6, 0), 1);
    due(x.fails(0, 59, 6, 1), 4096);
    due(x.fails(2, 0, 1, 0), LONG_LOW - 1);
    due(x.fails(-1, 0, 1, 0), LONG_LOW - 1);
    due(x.fails(0, -1, 1, 0), LONG_LOW - 1);
    due(x.fails(0, 100000, 1, 0), LONG_LOW - 1);
    due(x.fails(0, 0, 0, 0), LONG_LOW - 1);
    due(x.fails(0, 0, 7, 0), LONG_LOW - 1);
    due(x.fails(0, 0, 1, 2), LONG_LOW - 1);
    due(x.fails(0, 0, 1, -1), LONG_LOW - 1);
    due(x.told(1), 8);
    due(x.told(3), 2);
    promise(26, "stands");
    due(x.stands(0, 1, 25), 0);
    due(x.stands(0, 1, 24), 10);
    due(x.stands(0, 1, 99), 0);
    due(x.stands(0, 2, 44), 0);
    due(x.stands(0, 2, 43), 5);
    due(x.stands(0, 2, 6), 20);
    due(x.stands(0, 2, 7), 10);
    due(x.stands(1, 6, 1), 30);
    due(x.stands(2, 1, 1), BEYOND);
    due(x.stands(0, 0, 1), BEYOND);
    due(x.stands(0, 7, 1), BEYOND);
    due(x.stands(0, 1, 0), BEYOND);
    due(x.stands(0, 1, 100), BEYOND);
    promise(27, "book");
    due(x.book(0, 0, 0), 1);
    due(x.book(0, 0, 1), 0);
    due(x.book(0, 1, -10), 1);
    due(x.book(0, 1, 5), 1);
    due(x.book(0, 2, -5), 2);
    due(x.book(0, 6, 0), 15);
    due(x.book(0, 7, 0), BEYOND);
    due(x.book(0, -1, 0), BEYOND);
    due(x.book(2, 0, 0), BEYOND);
    due(x.book(0, 1, DEEP), 0);
    due(x.fieldIs(0, 1), 1);
    due(x.fieldIs(0, 3), 0);
    x.weather(1, 0);
    due(x.book(0, 6, -60), 1);
    x.weather(0, 0);
    due(x.book(0, 6, 0), 0);
    due(x.book(0, 0, 0), 1);
    x.set(0, 1, 0);
    x.evening();
    due(x.book(0, 0, 1), 1);
  }

  /** SUMS grow in the days ahead, and begin anew with the week. */
  private static void weekAhead() {
    promise(25, "fails: SUMS ahead");
    RainPurse x = rained(0, 0);
    x.law(40);
    x.force(0);
    x.weather(2, 16);
    x.rain(2, 0, 50);
    int[] owed = {0, 5, 10, 15, 20, 25, 30, 0, 5, 10, 15, 20, 25};
    x.sheet(0, 8, 1);
    x.put(0, 0, 2);
    for (int day = 0; day <= 7; day++) {
      for (int n = 1; n <= 6; n++) {
        int all = 0;
        for (int i = 0; i < n; i++) {
          all += owed[day + i];
        }
        due(x.stands(0, n, 1), all);
        due(x.book(0, n, x.fieldIs(0, 3) - all), 1);
        if (all > 0) {
          due(x.fails(0, all - 1, n, 0), 1);
        }
        due(x.fails(0, all, n, 0), 0);
      }
      due(x.play(0), 1);
    }
    due(x.stands(1, 6, 1), 0);
    promise(27, "book: SUMS by four WEATHERS");
    RainPurse y = rained(0, 0);
    y.law(61);
    y.force(0);
    read(y, 0, "r+s/m");
    for (int w = 0; w < 4; w++) {
      y.weather(w, 4);
      y.rain(w, 0, w == 0 ? 9 : w == 1 ? 20 : w == 2 ? 0 : 99);
    }
    for (int day = 0; day < 8; day++) {
      for (int n = 0; n <= 3; n++) {
        // With m 1 FIELD 0 owes all its RAIN of the week, and pays it to the other one.
        due(y.book(0, n, -67), rowsOwing(day % 7, 0, n, 67));
        due(y.book(0, n, -38), rowsOwing(day % 7, 0, n, 38));
        due(y.book(0, n, -29), rowsOwing(day % 7, 0, n, 29));
        due(y.book(0, n, 0), rowsOwing(day % 7, 0, n, 0));
      }
      due(y.book(0, 2, -38), day % 7 == 6 ? 0 : 1);
      due(y.book(0, 2, -29), day % 7 == 6 ? 2 : 0);
      due(y.evening(), 0);
    }
  }

  /** How many rows of n days make a FIELD owe so much that owes all that fell in the week. */
  private static int rowsOwing(int weekday, int fell, int n, int owes) {
    if (n == 0) {
      return owes == 0 ? 1 : 0;
    }
    int rows = 0;
    for (int rain : new int[] {9, 20, 0, 99}) {
      int then = fell + rain;
      rows += rowsOwing((weekday + 1) % 7, weekday == 6 ? 0 : then, n - 1, owes - then);
    }
    return rows;
  }

  private static void voices() {
    promise(28, "voice");
    RainPurse x = new RainPurse();
    due(x.voice(0, 0, 0), BEYOND);
    x.law(0);
    x.law(5);
    due(x.voice(1, 4, 0), BEYOND);
    due(x.voice(1, -1, 0), BEYOND);
    due(x.voice(2, 0, 0), BEYOND);
    due(x.count(8), 0);
    spoken(x, 5, 0, 7, 8, 10);
    spoken(x, 5, 1, 7, 16, 11, 10);
    spoken(x, 5, 2, 7, 11, 12, 11, 10);
    spoken(x, 5, 3, -7, -1, 13);
    spoken(x, 15, 0, 7, 2, 20, 10);
    spoken(x, 15, 1, 7, 4, 11, 20, 10);
    spoken(x, 15, 3, 9, 2 - 8, 21, 13, 11, 20, 10);
    spoken(x, 25, 1, 7, -16, 30, 11, 10);
    spoken(x, 25, 2, 7, -21, 12, 30, 11, 10);
    spoken(x, 25, 0, 7, 8, 10);
    spoken(x, 25, 3, 9, 2, 13);
    spoken(x, 35, 0, 7, 6, 40, 20, 10);
    spoken(x, 35, 2, 7, 7 ^ 1, 41, 12, 11, 40, 20, 10);
    spoken(x, 35, 3, 9, 2 - 24, 21, 13, 11, 40, 20, 10);
    spoken(x, 45, 2, -7, (-3 + 1 - 6) * 2 - 5, 50, 12, 11, 20, 10);
    spoken(x, 45, 0, 7, 2, 20, 10);
    spoken(x, 55, 1, 7, -18, 60, 30, 11, 10);
    spoken(x, 55, 2, 7, -23, 12, 60, 30, 11, 10);
    spoken(x, 65, 0, 7, 4, 70);
    spoken(x, 65, 1, 7, 13, 71, 11, 70);
    spoken(x, 65, 2, 7, 8, 12, 71, 11, 70);
    spoken(x, 5, 0, FAR, DEEP, 10);
    spoken(x, 0, 3, DEEP, DEEP, 13);
    partedVoices();
  }

  private static void partedVoices() {
    promise(28, "voice: PARTED");
    RainPurse x = new RainPurse();
    x.law(0);
    x.law(5);
    spoken(x, 65, 1, 7, 13, 71, 11, 70);
    spoken(x, 1, 3, 0, PARTED, 13);
    due(x.told(6), 1);
    spoken(x, 11, 3, 7, PARTED, 21, 13);
    spoken(x, 31, 3, FAR, PARTED, 21, 13);
    spoken(x, 65, 2, 7, 8, 12, 71, 11, 70);
    due(x.told(6), 3);
    due(x.voice(0, 3, 5), PARTED);
    traced(x, 13);
    promise(29, "body: a voice() that is BEYOND begins no BODY");
    due(x.voice(1, 5, 5), BEYOND);
    due(x.voice(2, 0, 5), BEYOND);
    traced(x, 13);
  }

  /** LAW 1 as one of a KIND speaks, and THE TRACE is as told. */
  private static void spoken(RainPurse x, int km, int voice, int of, int want, int... trace) {
    x.become(1, km);
    due(x.voice(1, voice, of), want);
    promise(29, "body");
    traced(x, trace);
    promise(28, "voice");
  }

  private static void traced(RainPurse x, int... trace) {
    due(x.count(8), trace.length);
    for (int i = 0; i < trace.length; i++) {
      due(x.body(i), trace[i]);
    }
    due(x.body(trace.length), NONE);
    due(x.body(-1), NONE);
  }

  private static void sheets() {
    promise(30, "sheet");
    RainPurse x = new RainPurse();
    due(x.sheet(0, 8, 24), 1);
    due(x.sheet(0, 8, 25), BEYOND);
    due(x.sheet(0, 8, -1), STATE);
    due(x.sheet(0, 8, DEEP), STATE);
    due(x.sheet(4, 8, -1), BEYOND);
    due(x.sheet(-1, 8, 1), BEYOND);
    due(x.sheet(0, 7, -1), BEYOND);
    due(x.sheet(0, 64, 1), BEYOND);
    due(x.sheet(0, -8, 1), BEYOND);
    due(x.put(0, 23, 1), 1);
    due(x.sheet(0, 0, -5), 1);
    due(x.put(0, 0, 1), NONE);
    due(x.sheet(0, 0, 99), 1);
    due(x.sheet(1, 32, 0), 1);
    promise(31, "put");
    due(x.put(1, 0, 1), BEYOND);
    due(x.put(0, 99, 1), NONE);
    due(x.put(4, 0, 1), BEYOND);
    due(x.put(-1, 0, 1), BEYOND);
    x.sheet(1, 16, 2);
    due(x.put(1, 2, 1), BEYOND);
    due(x.put(1, -1, 1), BEYOND);
    due(x.put(1, 1, 1), 1);
    due(x.told(2), 2);
    RainPurse y = rained(0, 0, 0);
    int[] kept = {3, 99, 0};
    for (int bits = 8; bits <= 32; bits *= 2) {
      y.sheet(2, bits, 3);
      due(y.rains(2), 3);
      due(y.fieldIs(1, 1), 0);
      for (int i = 0; i < 3; i++) {
        due(y.put(2, i, kept[i] + (bits < 32 ? 5 << bits : 0)), 1);
      }
      due(y.rains(2), 3);
      for (int i = 0; i < 3; i++) {
        due(y.fieldIs(i, 1), kept[i]);
      }
    }
    y.sheet(2, 16, 1);
    y.put(2, 0, 259);
    due(y.rains(2), 0);
    y.sheet(2, 32, 1);
    y.put(2, 0, 65539);
    due(y.rains(2), 0);
  }

  private static void moves() {
    promise(32, "move");
    RainPurse x = rained(0, 0, 0, 0, 0, 0);
    x.sheet(0, 8, 6);
    for (int i = 0; i < 6; i++) {
      x.put(0, i, i + 1);
    }
    x.sheet(1, 8, 4);
    x.sheet(2, 16, 4);
    due(x.move(0, 1, 1, 0, 4), 4);
    due(x.rains(1), 4);
    due(x.fieldIs(0, 1), 2);
    due(x.fieldIs(3, 1), 5);
    due(x.move(0, 0, 0, 1, 5), 5);
    due(x.rains(0), 6);
    int[] up = {1, 1, 2, 3, 4, 5};
    for (int i = 0; i < 6; i++) {
      due(x.fieldIs(i, 1), up[i]);
    }
    due(x.move(0, 2, 0, 0, 4), 4);
    due(x.rains(0), 6);
    int[] down = {2, 3, 4, 5, 4, 5};
    for (int i = 0; i < 6; i++) {
      due(x.fieldIs(i, 1), down[i]);
    }
    due(x.move(0, 6, 1, 4, 0), 0);
    due(x.move(0, 7, 1, 0, 0), BEYOND);
    due(x.move(0, 0, 1, 5, 0), BEYOND);
    due(x.move(0, 0, 1, 0, 5), BEYOND);
    due(x.move(0, 5, 1, 0, 2), BEYOND);
    due(x.move(0, 0, 1, 0, -1), BEYOND);
    due(x.move(0, -1, 1, 0, 1), BEYOND);
    due(x.move(0, 0, 1, -1, 1), BEYOND);
    due(x.move(0, 2, 1, 0, FAR), BEYOND);
    due(x.move(0, FAR, 1, 0, FAR), BEYOND);
    due(x.move(4, 0, 3, 0, 1), BEYOND);
    due(x.move(3, 0, 4, 0, 1), BEYOND);
    due(x.move(-1, 0, 0, 0, 1), BEYOND);
    due(x.move(3, 0, 0, 0, -1), NONE);
    due(x.move(0, 0, 3, 0, -1), NONE);
    due(x.move(0, 0, 2, 0, -1), KIND);
    due(x.move(2, 0, 0, 0, 0), KIND);
  }

  private static void sheetsAtWork() {
    promise(33, "rains");
    RainPurse x = rained(50, 50, 50);
    x.sheet(0, 16, 5);
    due(x.rains(0), 3);
    due(x.fieldIs(2, 1), 0);
    x.put(0, 0, 99);
    x.put(0, 1, 100);
    due(x.rains(0), 1);
    due(x.fieldIs(0, 1), 99);
    x.put(0, 0, -1);
    due(x.rains(0), 0);
    due(x.rains(1), NONE);
    due(x.rains(4), BEYOND);
    due(x.rains(-1), BEYOND);
    promise(34, "judge");
    RainPurse y = paying(3, 0, -3);
    y.sheet(0, 8, 0);
    due(y.judge(0), 100);
    judged(y, 8, 1, 0, 2, 9);
    judged(y, 8, 2, 0, 2, 4, 0, 2, 5);
    judged(y, 8, 101, 0, 2, 8);
    judged(y, 8, 101, 2, 0, 9);
    judged(y, 8, 102, 0, 2, 9, 0, 1, 1);
    judged(y, 8, 1, 0, 2, 9, 0, 2);
    judged(y, 8, 0, 0, 2);
    judged(y, 8, 0, 0, 3, 9);
    judged(y, 8, 0, -1, 2, 9);
    judged(y, 8, 1, 0, 2, 9, 1, 1, 1);
    judged(y, 8, 1, 0, 2, 9, 1, 0, 0);
    judged(y, 16, 1, 0, 2, 9, 1, 0, -4, 0, 2, 9);
    judged(y, 16, 101, 0, 2, 9 + 512);
    judged(y, 8, 1, 0, 2, 9 + 512);
    // Sums of PENNIES don't wrap.
    judged(y, 32, 106, 0, 2, FAR, 0, 2, FAR, 0, 2, 11, 1, 2, FAR, 2, 1, FAR, 0, 2, 0x7ffffffe);
    y.force(-1);
    y.sheet(0, 32, 0);
    due(y.judge(0), 0);
    due(y.judge(1), NONE);
    due(y.judge(4), BEYOND);
    due(y.judge(-1), BEYOND);
    due(y.fieldIs(0, 3), 0);
    promise(35, "play");
    RainPurse z = rained(9, 9);
    z.law(10);
    z.become(0, 0);
    z.force(0);
    z.rain(1, 0, 5);
    z.rain(3, 1, 5);
    z.sheet(0, 8, 5);
    z.put(0, 0, 1);
    z.put(0, 1, 1);
    z.put(0, 2, 3);
    z.put(0, 4, -1);
    due(z.play(0), 4);
    due(z.count(2), 4);
    due(z.fieldIs(0, 3), -1);
    due(z.fieldIs(0, 2), 10);
    due(z.fieldIs(1, 2), 5);
    due(z.fieldIs(1, 1), 0);
    z.put(0, 0, 4);
    due(z.play(0), 0);
    due(z.play(1), NONE);
    due(z.play(4), BEYOND);
    due(z.play(-1), BEYOND);
  }

  private static void judged(RainPurse x, int bits, int want, int... numbers) {
    x.sheet(3, bits, numbers.length);
    for (int i = 0; i < numbers.length; i++) {
      x.put(3, i, numbers[i]);
    }
    due(x.judge(3), want);
  }

  private static void images() {
    promise(36, "image");
    RainPurse x = rained(10, 20);
    x.law(14);
    x.force(0);
    x.weather(0, 16);
    x.rain(0, 1, 30);
    x.gauge(0, 5);
    x.gauge(1, 6);
    x.seed(77);
    x.evening();
    x.set(0, 1, 11);
    read(x, 0, "r*2");
    read(x, 1, "r*3");
    x.feed('r', 1);
    x.tell(5);
    due(x.image(), 1);
    x.field(4);
    x.set(2, 1, 44);
    x.rain(0, 2, 45);
    x.law(60);
    x.force(1);
    x.become(0, 3);
    x.weather(0, 3);
    x.weather(2, 4);
    x.rain(0, 1, 1);
    x.gauge(0, 0);
    x.gauge(1, 0);
    x.evening();
    x.evening();
    x.untell(0);
    read(x, 1, "+");
    read(x, 1, "1");
    x.tell(6);
    x.voice(0, 0, 1);
    x.sheet(0, 8, 2);
    x.seed(78);
    x.set(0, 0, 9);
    promise(37, "restore");
    due(x.restore(), 1);
    int[] counts = {2, 1, 1, 0, 5, 6, 1, 1, 1, 77, 16, 0, 0, 0};
    for (int i = 0; i < counts.length; i++) {
      due(x.count(i), counts[i]);
    }
    int[] field = {1, 11, 10, 4, 4, 4, 33};
    for (int i = 0; i < field.length; i++) {
      due(x.fieldIs(0, i), field[i]);
    }
    due(x.rain(0, 1, 30), 30);
    due(x.lawIs(0, 0), 1);
    due(x.text(0), 1);
    due(x.put(0, 1, 0), 1);
    due(x.become(0, 60), 14);
    due(x.fieldIs(0, 4), 11);
    due(x.field(8), 2);
    int[] anew = {8, 0, 0, 0, 0, -11, 0};
    for (int i = 0; i < anew.length; i++) {
      due(x.fieldIs(2, i), anew[i]);
    }
    due(x.rain(0, 2, 0), 0);
    due(x.restore(), 1);
    due(x.count(0), 2);
    due(x.become(0, 60), 14);
    due(x.fieldIs(0, 4), 22);
    due(x.image(), 2);
    x.become(0, 10);
    due(x.restore(), 1);
    due(x.lawIs(0, 0), 6);
    RainPurse y = new RainPurse();
    due(y.restore(), NONE);
    due(y.image(), 1);
    due(y.told(1), 0);
    y.field(1);
    y.field(21);
    due(y.restore(), 0);
    due(y.count(0), 0);
    due(y.told(1), 1);
    due(y.told(2), 1);
  }

  private static void tellings() {
    promise(38, "tell");
    RainPurse x = new RainPurse();
    for (int i = 1; i <= 24; i++) {
      due(x.tell(-i), i);
    }
    due(x.tell(0), FULL);
    due(x.count(7), 24);
    promise(39, "check");
    due(x.check(), 1);
    due(x.count(7), 0);
    due(x.check(), 0);
    RainPurse y = paying(2, -1, -1);
    y.tell(6);
    y.tell(-3);
    y.tell(-3);
    due(y.check(), 0);
    due(y.check(), 1);
    y.tell(6);
    y.tell(-3);
    due(y.check(), 3);
    y.tell(6);
    y.tell(-4);
    y.tell(-3);
    due(y.check(), 2);
    y.tell(6);
    y.tell(-3);
    y.tell(-3);
    y.tell(0);
    due(y.check(), 4);
    due(y.count(7), 0);
  }

  private static void countsAndErrors() {
    promise(40, "count");
    RainPurse x = new RainPurse();
    due(x.count(14), BEYOND);
    due(x.count(-1), BEYOND);
    due(x.count(FAR), BEYOND);
    for (int w = 0; w < 4; w++) {
      x.weather(w, w + 1);
      due(x.count(10 + w), w + 1);
    }
    x.seed(LOW - 2);
    due(x.count(9), LOW - 2);
    promise(41, "told");
    due(x.told(1), 3);
    due(x.told(2), 0);
    due(x.told(0), BEYOND);
    due(x.told(7), BEYOND);
    due(x.told(DEEP), BEYOND);
    due(x.told(1), 6);
    x.two();
    x.days(1);
    x.law(0);
    x.as(0, 1);
    x.voice(0, 3, 1);
    for (int i = 0; i < 25; i++) {
      x.tell(i);
    }
    x.text(0);
    for (int k = 2; k <= 6; k++) {
      due(x.told(k), 1);
    }
    x.fails(0, 0, 1, 0);
    due(x.told(1), 7);
  }
}
