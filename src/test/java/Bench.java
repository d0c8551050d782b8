import java.lang.reflect.Method;
import java.lang.reflect.Modifier;
import java.util.TreeMap;
import java.util.TreeSet;
import java.util.regex.Matcher;
import java.util.regex.Pattern;

/** What the tests by hand share: ERRORS, objects made ready, and how an answer is judged. */
abstract class Bench {
  static final int LOW = -1000000000;
  static final int BEYOND = LOW - 1;
  static final int NONE = LOW - 2;
  static final int STATE = LOW - 3;
  static final int FULL = LOW - 4;
  static final int KIND = LOW - 5;
  static final int PARTED = LOW - 6;
  static final long LONG_LOW = -1000000000000L;
  static final int FAR = Integer.MAX_VALUE;
  static final int DEEP = Integer.MIN_VALUE;

  private static int wrong;
  private static String about = "";

  static void about(String what) {
    about = what;
  }

  static void due(long got, long want) {
    if (got != want) {
      fail("answered " + got + ", due is " + want);
    }
  }

  /** Several answers in a row. */
  static void dues(long[] got, long... want) {
    due(got.length, want.length);
    for (int i = 0; i < got.length && i < want.length; i++) {
      due(got[i], want[i]);
    }
  }

  static void need(boolean right, String what) {
    if (!right) {
      fail(what);
    }
  }

  private static void fail(String what) {
    wrong++;
    StringBuilder lines = new StringBuilder();
    for (StackTraceElement at : new Throwable().getStackTrace()) {
      boolean ofTest = !at.getClassName().equals("Bench") && !at.getClassName().startsWith("java")
          && !at.getClassName().startsWith("jdk") && !at.getMethodName().equals("main");
      lines.append(ofTest ? " " + at.getLineNumber() : "");
    }
    System.out.println(about + ", line" + lines + ": " + what);
  }

  /** Ends the program, with 1 if an answer was not as due. */
  static void end(Class<?> tests) {
    System.out.println(tests.getSimpleName() + ": "
        + (wrong == 0 ? "all answers are as due" : wrong + " answers are not as due"));
    System.exit(wrong == 0 ? 0 : 1);
  }

  /**
   * Runs the tests of a class (its methods without parameters whose names begin with promise and
   * two digits) in the order of their names; each promise in such a range must have one.
   */
  static void runAll(Class<?> tests, int firstPromise, int lastPromise) {
    TreeMap<String, Method> byName = new TreeMap<>();
    TreeSet<Integer> tested = new TreeSet<>();
    Pattern form = Pattern.compile("promise(\\d\\d)[A-Z]\\w*");
    for (Method m : tests.getDeclaredMethods()) {
      Matcher name = form.matcher(m.getName());
      if (name.matches() && m.getParameterCount() == 0 && Modifier.isStatic(m.getModifiers())) {
        byName.put(m.getName(), m);
        tested.add(Integer.parseInt(name.group(1)));
      }
    }
    for (Method m : byName.values()) {
      about(m.getName());
      run(m);
    }
    about(tests.getSimpleName());
    for (int promise = firstPromise; promise <= lastPromise; promise++) {
      need(tested.contains(promise), "promise " + promise + " has no test");
    }
    end(tests);
  }

  private static void run(Method test) {
    try {
      test.setAccessible(true);
      test.invoke(null);
    } catch (ReflectiveOperationException e) {
      e.printStackTrace(System.out);
      need(false, "did not run to its end");
    }
  }

  /** FIELDS with such RAIN, and WORTH 1. */
  static RainPurse rained(int... rain) {
    RainPurse x = new RainPurse();
    for (int i = 0; i < rain.length; i++) {
      x.field(1);
      x.set(i, 1, rain[i]);
    }
    return x;
  }

  /** FIELDS with such RAIN, WORTH 1, and a LAW IN FORCE. */
  static RainPurse under(int km, int... rain) {
    RainPurse x = rained(rain);
    x.law(km);
    x.force(0);
    return x;
  }

  /** FIELDS that PAY such numbers (together nought), times how many there are. */
  static RainPurse paying(int... pays) {
    RainPurse x = new RainPurse();
    for (int i = 0; i < pays.length; i++) {
      x.field(0);
      x.set(i, 1, 50 + pays[i]);
    }
    read(x, 0, "r-50");
    x.law(60);
    x.force(0);
    return x;
  }

  /** As many FIELDS as are asked for: FIELD 0 OWES 999, all others -999, the most that can be. */
  static RainPurse farApart(int fields) {
    RainPurse x = new RainPurse();
    for (int i = 0; i < fields; i++) {
      x.field(i == 0 ? 2 : 0);
    }
    read(x, 0, "w*999-999");
    x.law(60);
    x.force(0);
    return x;
  }

  /** WEATHER 0 .. comes in so many days. */
  static void comes(RainPurse x, int... days) {
    for (int w = 0; w < days.length; w++) {
      x.weather(w, days[w]);
    }
  }

  /** Days go by until a DAY; WEATHER 3 comes always. */
  static void goTo(RainPurse x, int day) {
    x.weather(3, 16);
    int left = day - x.count(2);
    for (int i = 0; i < left / 60; i++) {
      x.days(60);
    }
    if (left % 60 > 0) {
      x.days(left % 60);
    }
    due(x.count(2), day);
  }

  static void feed(RainPurse x, String text) {
    for (int i = 0; i < text.length(); i += 8) {
      int n = Math.min(8, text.length() - i);
      long word = 0;
      for (int j = 0; j < n; j++) {
        word |= (long) text.charAt(i + j) << 8 * j;
      }
      x.feed(word, n);
    }
  }

  static int read(RainPurse x, int use, String text) {
    feed(x, text);
    return x.text(use);
  }

  /** What a TEXT makes of CROP of FIELD 0; if it is none, what text() answers. */
  static int crop(RainPurse x, String text) {
    int read = read(x, 1, text);
    return read == 1 ? x.fieldIs(0, 6) : read;
  }

  /** A SHEET of so many bits, with such numbers. */
  static void fill(RainPurse x, int sheet, int bits, int... numbers) {
    x.sheet(sheet, bits, numbers.length);
    for (int i = 0; i < numbers.length; i++) {
      x.put(sheet, i, numbers[i]);
    }
  }

  /** One what of fieldIs() of all FIELDS. */
  static long[] ofFields(RainPurse x, int what) {
    long[] all = new long[x.count(0)];
    for (int i = 0; i < all.length; i++) {
      all[i] = x.fieldIs(i, what);
    }
    return all;
  }

  static long[] toldOf(RainPurse x) {
    long[] all = new long[6];
    for (int k = 1; k <= 6; k++) {
      all[k - 1] = x.told(k);
    }
    return all;
  }
}
