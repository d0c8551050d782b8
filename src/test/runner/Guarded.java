import java.lang.reflect.InvocationTargetException;
import java.lang.reflect.Method;

/** Runs a test's main method, but not for ever: a call that never ends must fail its test. */
public final class Guarded {
  private Guarded() {
  }

  /** The test's name, and how many seconds it may take. */
  public static void main(String[] a) throws Throwable {
    haltAfter(a[0], Long.parseLong(a[1]));
    Method test = Class.forName(a[0]).getDeclaredMethod("main", String[].class);
    test.setAccessible(true);
    try {
      test.invoke(null, (Object) new String[0]);
    } catch (InvocationTargetException e) {
      throw e.getCause();
    }
  }

  private static void haltAfter(String name, long seconds) {
    Thread guard = new Thread(() -> {
      try {
        Thread.sleep(1000 * seconds);
      } catch (InterruptedException e) {
        return;
      }
      System.out.println(name + " did not end within " + seconds + " seconds");
      Runtime.getRuntime().halt(1);
    });
    guard.setDaemon(true);
    guard.start();
  }
}
