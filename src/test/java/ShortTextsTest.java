import java.util.Map;

/**
 * All short rows of some signs, read as a TEXT of each USE. What they are is found without reading
 * them from their first byte on: a row is parted at each sign that could join two parts of it, and
 * a TEXT goes on with a byte if the row up to it becomes one by a NAME and some ) behind it.
 */
public final class ShortTextsTest extends Bench {
  private static final String[] JOINS = {"|", "&", "<=>", "+-", "*/%"};
  private static final int MOST_OPEN = 5;
  private static final int[] MOST = {999, 9999};
  /** RAIN 7, WORTH 3, SUM 41, m 5; DAY is 2. */
  private static final Map<Character, Integer> OF_DUES = Map.of('r', 7, 'w', 3, 's', 41, 'm', 5);
  private static final Map<Character, Integer> OF_CROP = Map.of('r', 7, 'w', 3, 'd', 2);
  private static final int[] WITHOUT = {-5, 21};
  private static final int CALLS_OF_ROW = 3;

  private final int use;
  private final String signs;
  private RainPurse purse;
  private int callsLeft;
  private int ahead;

  private ShortTextsTest(int use, String signs) {
    this.use = use;
    this.signs = signs;
  }

  public static void main(String[] args) {
    for (int use = 0; use < 2; use++) {
      all(use, "rsd7!()|&<-%", 4);
      all(use, "w2(|=/)", 5);
      all(use, "r!()", 8);
      all(use, "90+m", 7);
      all(use, "r<>&", 7);
    }
    end(ShortTextsTest.class);
  }

  private static void all(int use, String signs, int longest) {
    about("USE " + use + ", rows of " + signs);
    new ShortTextsTest(use, signs).walk("", -1, longest);
  }

  /** The row up to here has its FAULT at a place, or none yet (-1). */
  private void walk(String row, int fault, int left) {
    ask(row, fault);
    for (int i = 0; i < signs.length() && left > 0; i++) {
      String next = row + signs.charAt(i);
      walk(next, fault >= 0 || goesOn(next) ? fault : row.length(), left - 1);
    }
  }

  private void ask(String row, int fault) {
    if (callsLeft < CALLS_OF_ROW) {
      renew();
    }
    callsLeft -= CALLS_OF_ROW;
    Integer made = made(row, 0, 0);
    int answer = fault >= 0 ? -10 - fault : made == null ? -10 - row.length() : 1;
    feed(purse, row);
    int read = purse.text(use);
    need(read == answer, row + " answered " + read + ", due is " + answer);
    if (answer == 1) {
      ahead = Math.max(-MOST[use], Math.min(MOST[use], made));
    }
    int now = purse.fieldIs(0, use == 0 ? 4 : 6);
    need(now == ahead, row + " makes " + now + ", due is " + ahead);
  }

  private void renew() {
    purse = new RainPurse();
    purse.field(3);
    purse.law(65);
    purse.force(0);
    purse.set(0, 1, 41);
    purse.evening();
    purse.evening();
    purse.set(0, 1, 7);
    callsLeft = Counted.MOST_CALLS - 7;
    ahead = WITHOUT[use];
  }

  private boolean goesOn(String row) {
    String closed = "";
    for (int i = 0; i <= MOST_OPEN; i++) {
      if (made(row + closed, 0, 0) != null || made(row + "r" + closed, 0, 0) != null) {
        return true;
      }
      closed += ")";
    }
    return false;
  }

  /** What a row makes as T (level 0), A, B, S, P (4) or Q; null: it is none. */
  private Integer made(String row, int level, int open) {
    if (level == JOINS.length) {
      return madeByQ(row, open);
    }
    Integer alone = made(row, level + 1, open);
    boolean once = level == 2;
    for (int i = row.length() - 1; i >= 0 && alone == null; i--) {
      if (JOINS[level].indexOf(row.charAt(i)) >= 0) {
        Integer left = made(row.substring(0, i), once ? level + 1 : level, open);
        Integer right = made(row.substring(i + 1), level + 1, open);
        alone = left == null || right == null ? null : joined(row.charAt(i), left, right);
      }
    }
    return alone;
  }

  private Integer madeByQ(String row, int open) {
    Map<Character, Integer> names = use == 0 ? OF_DUES : OF_CROP;
    if (row.matches("[0-9]{1,4}")) {
      return Integer.parseInt(row);
    }
    if (row.length() == 1) {
      return names.get(row.charAt(0));
    }
    if (row.startsWith("!") && open < MOST_OPEN) {
      Integer denied = madeByQ(row.substring(1), open + 1);
      return denied == null ? null : Integer.valueOf(denied == 0 ? 1 : 0);
    }
    if (row.startsWith("(") && row.endsWith(")") && open < MOST_OPEN) {
      return made(row.substring(1, row.length() - 1), 0, open + 1);
    }
    return null;
  }

  private static int joined(char sign, int a, int b) {
    switch (sign) {
      case '|': return a != 0 || b != 0 ? 1 : 0;
      case '&': return a != 0 && b != 0 ? 1 : 0;
      case '<': return a < b ? 1 : 0;
      case '=': return a == b ? 1 : 0;
      case '>': return a > b ? 1 : 0;
      case '+': return a + b;
      case '-': return a - b;
      case '*': return a * b;
      case '/': return b == 0 ? 0 : a / b;
      default: return b == 0 ? 0 : a % b;
    }
  }
}
