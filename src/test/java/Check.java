import java.util.Arrays;

/** Counts and prints the answers that are not the ones that are due. */
final class Check {
  private static final long MOST_MILLIS = 180_000;

  private static int asked = 0;
  private static int wrong = 0;

  static {
    // A call that does not end is a wrong answer too, and must not hold up all the other tests.
    Thread watch = new Thread(Check::giveUp);
    watch.setDaemon(true);
    watch.start();
  }

  private Check() {}

  static void due(String what, long got, long want) {
    asked++;
    if (got != want) {
      complain(what + " answered " + got + ", due is " + want);
    }
  }

  static void due(String what, boolean got, boolean want) {
    asked++;
    if (got != want) {
      complain(what + " answered " + got + ", due is " + want);
    }
  }

  static void row(String what, int[] got, int... want) {
    asked++;
    if (!Arrays.equals(got, want)) {
      complain(what + " is " + Arrays.toString(got) + ", due is " + Arrays.toString(want));
    }
  }

  /** The call throws just this exception, and all that the object tells is as it was before. */
  static void refused(
      String what, TeleStack x, Class<? extends RuntimeException> kind, Runnable call) {
    String before = Scene.allOf(x);
    throwing(what, kind, call);
    String after = Scene.allOf(x);
    if (!after.equals(before)) {
      complain(what + " threw and changed " + before + " to " + after);
    }
  }

  /** The call throws just this exception, not even one that extends it. */
  static void throwing(String what, Class<? extends RuntimeException> kind, Runnable call) {
    Class<?> thrown = null;
    try {
      call.run();
    } catch (RuntimeException e) {
      thrown = e.getClass();
    }
    asked++;
    if (thrown != kind) {
      complain(what + " threw " + thrown + ", due is " + kind);
    }
  }

  private static void giveUp() {
    try {
      Thread.sleep(MOST_MILLIS);
    } catch (InterruptedException e) {
      return;
    }
    System.out.println("the test does not end");
    Runtime.getRuntime().halt(1);
  }

  static void complain(String text) {
    wrong++;
    System.out.println(text);
  }

  static void close() {
    if (asked == 0) {
      complain("nothing was asked");
    }
    if (wrong > 0) {
      System.exit(1);
    }
  }
}
