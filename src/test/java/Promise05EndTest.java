final class Promise05EndTest {
  public static void main(String[] args) {
    everyBusyModeEnds();
    listSlotAndTimerAreEmptied();
    noOldMarkIsLeft();
    whatIsOnItsWayStays();
    anIdleGroundIsRefused();
    Check.close();
  }

  private static void everyBusyModeEnds() {
    for (int mode = 1; mode <= 5; mode++) {
      TeleStack x = Scene.groundIn(mode);
      int next = x.ground(1);
      int tries = x.ground(6);
      x.end();
      Check.row("ended", Scene.ground(x), 0, next, next, 0, 0, 0, tries, 0, 0);
    }
  }

  private static void listSlotAndTimerAreEmptied() {
    TeleStack x = new TeleStack();
    x.tune(2, 5, 2);
    x.begin(0);
    Scene.send(x, 1, 2);
    x.command(3);
    Scene.ticks(x, 2);
    Check.row("before the end", Scene.ground(x), 1, 2, 0, 2, 1, 1, 2, 2, 0);
    x.end();
    Check.row("after the end", Scene.ground(x), 0, 2, 2, 0, 0, 0, 2, 0, 0);
    x.begin(0);
    Check.due("tick(): slot and list are empty", x.tick(), -1);
    Scene.send(x, 4);
    Check.row("the next frame", Scene.flight(x, 3), 0, 2, 4);
  }

  private static void noOldMarkIsLeft() {
    TeleStack x = Scene.groundIn(Scene.RESENDING);
    Check.due("marked", x.ground(4), 1);
    x.end();
    Check.due("marked after the end", x.ground(4), 0);
    x.begin(0);
    Scene.send(x, 4);
    Check.due("marked in its place", x.ground(4), 0);
    Check.due("tick() sends it once", x.tick(), -1);
  }

  private static void whatIsOnItsWayStays() {
    TeleStack x = new TeleStack();
    x.begin(0);
    Scene.send(x, 1, 2);
    x.report();
    x.end();
    Check.due("up frames", x.ground(9), 2);
    Check.due("reports", x.ground(10), 1);
    Check.row("second frame", Scene.flight(x, 1), 0, 1, 2);
  }

  private static void anIdleGroundIsRefused() {
    TeleStack x = new TeleStack();
    Check.refused("end() of a new one", x, IllegalStateException.class, () -> x.end());
    x.begin(0);
    x.end();
    Check.refused("end() twice", x, IllegalStateException.class, () -> x.end());
  }
}
