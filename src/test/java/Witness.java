import java.util.ArrayList;
import java.util.List;

/**
 * Objects in known states, and all that can be seen of one: a row of answers that two objects give
 * alike just if nothing tells them apart. Looking so changes the object: it is of no use then.
 */
final class Witness {
  /** No call has been made. */
  static final int EMPTY = 0;
  /** Something of all that there is, and room for more; no row is full. */
  static final int BUSY = 1;
  /** No room is left: FIELDS, LAWS, THE TAPE, numbers that wait, a SHEET; WEATHER isn't WHOLE. */
  static final int FULL_UP = 2;
  /** DAY is 9999. */
  static final int LAST_DAY = 3;
  /** As BUSY, but an IMAGE is missing, and WEATHER isn't WHOLE. */
  static final int BARE = 4;
  static final int[] STATES = {EMPTY, BUSY, FULL_UP, LAST_DAY, BARE};

  private Witness() {
  }

  static Counted made(int state) {
    Counted x = new Counted();
    switch (state) {
      case BUSY:
        makeBusy(x);
        break;
      case FULL_UP:
        makeFullUp(x);
        break;
      case LAST_DAY:
        makeLate(x);
        break;
      case BARE:
        makeBare(x);
        break;
      default:
    }
    return x;
  }

  /** 3 FIELDS, 3 LAWS (TOLD IN FORCE), both TEXTS, DAY 3, an IMAGE of DAY 1, SHEETS 0, 1, 2. */
  private static void makeBusy(Counted x) {
    makeFields(x, 3);
    calls(x, "law", 15, 61, 43);
    x.call("force", 1);
    text(x, 0, "r+s/2-m*w");
    text(x, 1, "r*w+d*7");
    makeWeather(x, 3, 8, 4, 3, 1);
    x.call("evening");
    x.call("gauge", 0, 4);
    x.call("image");
    x.call("gauge", 0, 3);
    x.call("gauge", 1, 7);
    x.call("days", 2);
    for (int i = 0; i < 3; i++) {
      x.call("set", i, 1, 17 + 21 * i);
    }
    feed(x, "r*2+w");
    x.call("voice", 1, 2, 5);
    makeSheet(x, 0, 8, 1, 2, 3);
    makeSheet(x, 1, 16, 30, 31, 32, 33, 34, 35);
    makeSheet(x, 2, 32);
    for (int i = 0; i < 3; i++) {
      x.call("tell", x.call("fieldIs", i, 5));
    }
  }

  private static void makeFullUp(Counted x) {
    makeFields(x, 8);
    calls(x, "law", 0, 69, 25, 38, 51);
    x.call("force", 4);
    makeWeather(x, 8, 1, 2, 3, 4);
    x.call("image");
    x.call("evening");
    for (int i = 0; i < 8; i++) {
      x.call("set", i, 1, 11 * i);
    }
    feed(x, "10+1+1+1+1+1+1+1+1+1+1+1+1+1+1+1+1+1+1+1+1+1+1+1+1+1+1+1+1+1");
    x.call("voice", 3, 3, 9);
    makeSheet(x, 1, 8, 1, 2, 3, 4, 5, 6, 7, 8, 9, 10, 11, 12, 13, 14, 15, 16, 17, 18, 19, 20, 21,
        22, 23, 24);
    makeSheet(x, 3, 32, 77);
    for (int i = 0; i < 24; i++) {
      x.call("tell", i < 8 ? x.call("fieldIs", i, 5) : i);
    }
  }

  private static void makeLate(Counted x) {
    makeFields(x, 2);
    calls(x, "law", 17);
    x.call("force", 0);
    makeWeather(x, 2, 3, 5, 6, 2);
    while (x.call("count", 2) < 9960) {
      x.call("days", 60);
    }
    x.call("days", 39);
    x.call("set", 0, 1, 30);
    x.call("set", 1, 1, 50);
    x.call("image");
    makeSheet(x, 0, 8, 1, 2);
  }

  private static void makeBare(Counted x) {
    makeFields(x, 1);
    calls(x, "law", 3, 0, 11);
    x.call("weather", 0, 15);
    x.call("evening");
    x.call("set", 0, 1, 5);
    x.call("voice", 0, 0, 1);
  }

  private static void makeFields(Counted x, int n) {
    for (int i = 0; i < n; i++) {
      x.call("field", 2 + 2 * i);
      x.call("set", i, 1, 40 + 5 * i);
    }
  }

  private static void makeWeather(Counted x, int fields, int... days) {
    for (int w = 0; w < 4; w++) {
      x.call("weather", w, days[w]);
      for (int i = 0; i < fields; i++) {
        x.call("rain", w, i, 5 + 20 * w + 2 * i);
      }
    }
  }

  private static void makeSheet(Counted x, int sheet, int bits, int... numbers) {
    x.call("sheet", sheet, bits, numbers.length);
    for (int i = 0; i < numbers.length; i++) {
      x.call("put", sheet, i, numbers[i]);
    }
  }

  private static void calls(Counted x, String name, int... each) {
    for (int v : each) {
      x.call(name, v);
    }
  }

  private static void text(Counted x, int use, String text) {
    feed(x, text);
    x.call("text", use);
  }

  private static void feed(Counted x, String text) {
    for (int i = 0; i < text.length(); i += 8) {
      int n = Math.min(8, text.length() - i);
      long word = 0;
      for (int j = 0; j < n; j++) {
        word |= (long) text.charAt(i + j) << 8 * j;
      }
      x.call("feed", word, n);
    }
  }

  /** How often each of the ERRORS was answered: at place k - 1 of LOW - k. */
  static long[] errors(Counted x) {
    long[] told = new long[6];
    for (int k = 1; k <= 6; k++) {
      told[k - 1] = x.call("told", k);
    }
    return told;
  }

  /** All but what told() tells. */
  static List<Long> seen(Counted x) {
    List<Long> seen = new ArrayList<>();
    seeTrace(x, seen);
    seeWorld(x, seen);
    seeSheets(x, seen);
    boolean kept = x.call("restore") >= 0;
    if (kept) {
      seeWorld(x, seen);
    }
    seen.add(kept ? 1L : 0L);
    seen.add(x.call("image"));
    return seen;
  }

  private static void seeTrace(Counted x, List<Long> seen) {
    long bodies = x.call("count", 8);
    seen.add(bodies);
    for (int i = 0; i < bodies; i++) {
      seen.add(x.call("body", i));
    }
  }

  /** What an IMAGE keeps; THE TAPE, TEXTS, RAIN of WEATHER and the numbers that wait go so. */
  private static void seeWorld(Counted x, List<Long> seen) {
    for (int what = 0; what < 14; what++) {
      if (what != 8) {
        seen.add(x.call("count", what));
      }
    }
    long fields = x.call("count", 0);
    for (int i = 0; i < fields; i++) {
      for (int what = 0; what < 7; what++) {
        if (what != 5) {
          seen.add(x.call("fieldIs", i, what));
        }
      }
    }
    long laws = x.call("count", 1);
    for (int law = 0; law < laws; law++) {
      for (int what = 0; what < 4; what++) {
        seen.add(x.call("lawIs", law, what));
      }
    }
    seen.add(x.call("check"));
    seen.add(x.call("untell", 0));
    seen.add(x.call("untell", 1));
    seen.add(x.call("text", 1));
    for (int i = 0; i < fields; i++) {
      seen.add(x.call("fieldIs", i, 6));
      for (int w = 0; w < 4; w++) {
        seen.add(x.call("rain", w, i, 0));
      }
    }
  }

  /** How many numbers of which bits, and the numbers (0 .. 99), as RAIN of all FIELDS. */
  private static void seeSheets(Counted x, List<Long> seen) {
    long fields = x.call("count", 0);
    for (int sheet = 0; sheet < 4; sheet++) {
      for (int other = 0; other < sheet; other++) {
        seen.add(x.call("move", sheet, 0, other, 0, 0));
      }
      long size = sizeOf(x, sheet);
      seen.add(size);
      for (long from = 0; from < size && fields > 0; from += fields) {
        long rest = size - from;
        x.call("move", sheet, Math.min(from, fields), sheet, 0, rest);
        x.call("rains", sheet);
        for (int i = 0; i < fields && i < rest; i++) {
          seen.add(x.call("fieldIs", i, 1));
        }
      }
    }
  }

  /** -1: it is missing. */
  private static long sizeOf(Counted x, int sheet) {
    long size = -1;
    while (x.call("move", sheet, size + 1, sheet, 0, 0) == 0) {
      size++;
    }
    return size;
  }
}
