final class Promise03NumberTest {
  public static void main(String[] args) {
    nextAndOldestBecomeSo();
    numbersCountModulo16();
    wrongNumbersAreRefused();
    onlyAnIdleGroundIsNumbered();
    Check.close();
  }

  private static void nextAndOldestBecomeSo() {
    TeleStack x = new TeleStack();
    for (int n = 15; n >= 0; n--) {
      x.number(n);
      Check.row("number(" + n + ")", Scene.ground(x), 0, n, n, 0, 0, 0, 0, 0, 0);
    }
  }

  private static void numbersCountModulo16() {
    TeleStack x = new TeleStack();
    x.number(15);
    x.begin(0);
    Scene.send(x, 5, 6);
    Check.row("first frame", Scene.flight(x, 0), 0, 15, 5);
    Check.row("second frame", Scene.flight(x, 1), 0, 0, 6);
    Check.row("ground", Scene.ground(x), 1, 1, 15, 2, 0, 0, 1, 5, 0);
  }

  private static void wrongNumbersAreRefused() {
    TeleStack x = new TeleStack();
    x.number(4);
    for (int n : new int[] {-1, 16, 17, Integer.MIN_VALUE, Integer.MAX_VALUE}) {
      Check.refused("number(" + n + ")", x, IllegalArgumentException.class, () -> x.number(n));
    }
  }

  private static void onlyAnIdleGroundIsNumbered() {
    for (int mode = 1; mode <= 5; mode++) {
      TeleStack x = Scene.groundIn(mode);
      Check.refused("number when busy", x, IllegalStateException.class, () -> x.number(9));
      Check.refused("wrong number when busy", x, IllegalStateException.class, () -> x.number(16));
    }
  }
}
