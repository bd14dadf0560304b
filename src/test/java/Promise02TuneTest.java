final class Promise02TuneTest {
  public static void main(String[] args) {
    windowBoundsWhatIsUnacknowledged();
    limitBoundsTheTries();
    spanIsTheTimer();
    wrongValuesAreRefused();
    onlyAnIdleGroundIsTuned();
    Check.close();
  }

  private static void windowBoundsWhatIsUnacknowledged() {
    for (int window = 1; window <= 4; window++) {
      TeleStack x = new TeleStack();
      x.tune(window, 4, 20);
      x.begin(0);
      for (int i = 0; i < window; i++) {
        Scene.send(x, i);
      }
      x.command(99);
      Check.due("tick() beyond the window", x.tick(), -1);
      Check.due("unacknowledged", x.ground(3), window);
    }
  }

  private static void limitBoundsTheTries() {
    for (int limit = 1; limit <= 9; limit++) {
      TeleStack x = new TeleStack();
      x.tune(3, limit, 1);
      x.begin(0);
      Scene.send(x, 7);
      for (int tries = 2; tries <= limit; tries++) {
        Check.due("tick() below the limit", x.tick(), 0);
        Check.due("TRIES", x.ground(6), tries);
      }
      Check.due("tick() at the limit", x.tick(), -1);
      Check.row("at the limit", Scene.ground(x), 0, 1, 1, 0, 0, 0, limit, 0, 5);
    }
  }

  private static void spanIsTheTimer() {
    for (int span = 1; span <= 20; span++) {
      TeleStack x = new TeleStack();
      x.tune(3, 4, span);
      x.begin(1);
      Check.due("timer", x.ground(7), span);
      Scene.ticks(x, span - 1);
      Check.due("mode before the span is over", x.ground(0), 4);
      x.tick();
      Check.due("mode when the span is over", x.ground(0), 0);
    }
  }

  private static void wrongValuesAreRefused() {
    int[][] wrongs = {
      {0, 3, 3}, {5, 3, 3}, {-1, 3, 3}, {Integer.MAX_VALUE, 3, 3}, {Integer.MIN_VALUE, 3, 3},
      {1, 0, 3}, {1, 10, 3}, {1, -1, 3}, {1, Integer.MAX_VALUE, 3}, {1, Integer.MIN_VALUE, 3},
      {1, 3, 0}, {1, 3, 21}, {1, 3, -1}, {1, 3, Integer.MAX_VALUE}, {1, 3, Integer.MIN_VALUE}
    };
    for (int[] w : wrongs) {
      TeleStack x = new TeleStack();
      x.tune(2, 2, 2);
      Check.refused(
          "tune(" + w[0] + ", " + w[1] + ", " + w[2] + ")",
          x,
          IllegalArgumentException.class,
          () -> x.tune(w[0], w[1], w[2]));
      allThreeAreStillTwo(x);
    }
  }

  private static void allThreeAreStillTwo(TeleStack x) {
    x.begin(0);
    Scene.send(x, 1, 2);
    x.command(3);
    Check.due("tick() beyond the window of 2", x.tick(), -1);
    Check.due("tick() when the span of 2 is over", x.tick(), 0);
    Check.due("tick() that sends the second again", x.tick(), 0);
    Scene.ticks(x, 2);
    Check.row("at the limit of 2", Scene.ground(x), 0, 2, 2, 0, 0, 0, 2, 0, 5);
  }

  private static void onlyAnIdleGroundIsTuned() {
    for (int mode = 1; mode <= 5; mode++) {
      TeleStack x = Scene.groundIn(mode);
      Check.refused("tune when busy", x, IllegalStateException.class, () -> x.tune(1, 1, 1));
      Check.refused("wrong tune when busy", x, IllegalStateException.class, () -> x.tune(0, 0, 0));
    }
  }
}
