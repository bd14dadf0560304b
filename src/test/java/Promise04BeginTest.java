final class Promise04BeginTest {
  public static void main(String[] args) {
    eachHowHasItsMode();
    startingSendsItsFrame();
    triesAndReasonBeginAnew();
    aFrameDueEarlierIsForgotten();
    wrongHowsAreRefused();
    onlyAnIdleGroundBegins();
    Check.close();
  }

  private static void eachHowHasItsMode() {
    int[][] dues = {
      {1, 9, 9, 0, 0, 0, 1, 0, 0}, {4, 9, 9, 0, 0, 0, 1, 5, 0},
      {5, 9, 9, 0, 0, 0, 1, 0, 0}, {5, 9, 9, 0, 0, 0, 1, 0, 0}
    };
    for (int how = 0; how <= 3; how++) {
      TeleStack x = new TeleStack();
      x.number(9);
      x.begin(how);
      Check.row("begin(" + how + ")", Scene.ground(x), dues[how]);
      Check.due("up frames before a tick", x.ground(9), 0);
    }
  }

  private static void startingSendsItsFrame() {
    for (int how = 0; how <= 3; how++) {
      TeleStack x = new TeleStack();
      x.number(9);
      x.begin(how);
      Check.due("tick() after begin(" + how + ")", x.tick(), how < 2 ? -1 : how - 1);
      if (how >= 2) {
        Check.row("its frame", Scene.flight(x, 0), how - 1, how == 2 ? 0 : 9, 0);
        Check.due("timer", x.ground(7), 5);
      }
    }
  }

  private static void triesAndReasonBeginAnew() {
    for (int how = 0; how <= 3; how++) {
      TeleStack x = new TeleStack();
      x.tune(3, 3, 1);
      x.begin(0);
      Scene.send(x, 1);
      Scene.ticks(x, 3);
      Check.row("after the alarm", Scene.ground(x), 0, 1, 1, 0, 0, 0, 3, 0, 5);
      x.begin(how);
      Check.due("reason after begin(" + how + ")", x.ground(8), 0);
      Check.due("TRIES after begin(" + how + ")", x.ground(6), 1);
    }
  }

  private static void aFrameDueEarlierIsForgotten() {
    TeleStack x = new TeleStack();
    x.begin(2);
    x.end();
    x.begin(0);
    Check.due("tick() of an active ground", x.tick(), -1);
    x.end();
    x.begin(3);
    Check.due("tick() sends the SET", x.tick(), 2);
    Check.due("tick() sends it once", x.tick(), -1);
  }

  private static void wrongHowsAreRefused() {
    TeleStack x = new TeleStack();
    for (int how : new int[] {-1, 4, 5, Integer.MIN_VALUE, Integer.MAX_VALUE}) {
      Check.refused("begin(" + how + ")", x, IllegalArgumentException.class, () -> x.begin(how));
    }
  }

  private static void onlyAnIdleGroundBegins() {
    for (int mode = 1; mode <= 5; mode++) {
      TeleStack x = Scene.groundIn(mode);
      Check.refused("begin when busy", x, IllegalStateException.class, () -> x.begin(0));
      Check.refused("wrong begin when busy", x, IllegalStateException.class, () -> x.begin(4));
    }
  }
}
