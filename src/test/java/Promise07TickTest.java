final class Promise07TickTest {
  public static void main(String[] args) {
    nothingToSend();
    theFirstMarkedGoesBeforeTheSlot();
    anActiveGroundStaysActive();
    aResendingGroundTriesAgain();
    triesBeginAnewWithTheOnlyFrame();
    aHeldGroundWaits();
    aCheckingGroundGivesUp();
    aStartingGroundTriesAgain();
    aResendingGroundSendsTheSlotToo();
    aTwentyFirstFrameIsLost();
    Check.close();
  }

  private static void nothingToSend() {
    for (int how = 0; how <= 1; how++) {
      TeleStack x = new TeleStack();
      x.begin(how);
      Check.due("tick()", x.tick(), -1);
      Check.due("up frames", x.ground(9), 0);
    }
    TeleStack x = new TeleStack();
    x.begin(0);
    Scene.ticks(x, 9);
    Check.row("a timer that does not run", Scene.ground(x), 1, 0, 0, 0, 0, 0, 1, 0, 0);
  }

  private static void theFirstMarkedGoesBeforeTheSlot() {
    TeleStack x = new TeleStack();
    x.tune(3, 4, 2);
    x.begin(0);
    Scene.send(x, 1, 2);
    x.command(3);
    Check.due("tick() sends the third", x.tick(), 0);
    x.command(4);
    Check.due("tick() while the timer runs", x.tick(), -1);
    Check.due("tick() when it has run out", x.tick(), 0);
    Check.row("first again", Scene.flight(x, 3), 0, 0, 1);
    Check.row("ground", Scene.ground(x), 1, 3, 0, 3, 2, 1, 2, 2, 0);
    x.tick();
    Check.row("second again", Scene.flight(x, 4), 0, 1, 2);
    x.tick();
    Check.row("third again", Scene.flight(x, 5), 0, 2, 3);
    Check.row("ground", Scene.ground(x), 1, 3, 0, 3, 0, 1, 2, 2, 0);
    Check.due("tick() with a full window", x.tick(), -1);
  }

  private static void anActiveGroundStaysActive() {
    TeleStack x = new TeleStack();
    x.tune(2, 2, 3);
    x.begin(0);
    Scene.send(x, 1, 2);
    Check.due("timer when sent", x.ground(7), 3);
    Check.due("tick()", x.tick(), -1);
    Check.due("timer", x.ground(7), 2);
    Check.due("tick()", x.tick(), -1);
    Check.due("timer", x.ground(7), 1);
    Check.due("tick() that runs out", x.tick(), 0);
    Check.row("ground", Scene.ground(x), 1, 2, 0, 2, 1, 0, 2, 3, 0);
    Scene.ticks(x, 3);
    Check.row("not yet the limit", Scene.ground(x), 1, 2, 0, 2, 0, 0, 2, 1, 0);
    Check.due("tick() at the limit", x.tick(), -1);
    Check.row("alarm 5", Scene.ground(x), 0, 2, 2, 0, 0, 0, 2, 0, 5);
  }

  private static void aResendingGroundTriesAgain() {
    TeleStack x = Scene.craftAt(0, Scene.OPEN, true);
    x.tune(2, 3, 2);
    x.begin(0);
    Scene.send(x, 1, 2);
    Scene.hear(x);
    Check.row("resending", Scene.ground(x), 2, 2, 0, 2, 2, 0, 2, 2, 0);
    Check.due("tick()", x.tick(), 0);
    Check.row("one is sent", Scene.ground(x), 2, 2, 0, 2, 1, 0, 2, 2, 0);
    Check.due("tick()", x.tick(), 0);
    Scene.ticks(x, 2);
    Check.row("tried again", Scene.ground(x), 2, 2, 0, 2, 1, 0, 3, 2, 0);
    Scene.ticks(x, 3);
    Check.row("alarm 5", Scene.ground(x), 0, 2, 2, 0, 0, 0, 3, 0, 5);
  }

  private static void triesBeginAnewWithTheOnlyFrame() {
    TeleStack x = new TeleStack();
    x.tune(2, 4, 1);
    x.begin(0);
    Scene.send(x, 1);
    x.command(2);
    x.tick();
    Check.due("TRIES grew", x.ground(6), 2);
    Check.due("it is the first again", x.flight(1, 1), 0);
    x.end();
    x.begin(0);
    Scene.send(x, 3);
    Check.row("only frame", Scene.ground(x), 1, 2, 1, 1, 0, 0, 1, 1, 0);
    TeleStack y = new TeleStack();
    y.tune(2, 4, 2);
    y.begin(0);
    Scene.send(y, 1);
    Scene.ticks(y, 2);
    Check.due("TRIES", y.ground(6), 2);
    Scene.send(y, 2);
    Check.due("TRIES stay for a second frame", y.ground(6), 2);
  }

  private static void aHeldGroundWaits() {
    TeleStack x = Scene.craftAt(0, Scene.WAITING, true);
    x.tune(2, 2, 2);
    x.begin(0);
    Scene.send(x, 1);
    Scene.hear(x);
    x.command(2);
    Check.due("tick() when held", x.tick(), -1);
    Check.row("held", Scene.ground(x), 3, 1, 0, 1, 0, 1, 1, 1, 0);
    Check.due("tick() that runs out", x.tick(), -1);
    Check.row("still held", Scene.ground(x), 3, 1, 0, 1, 0, 1, 1, 0, 0);
    Scene.ticks(x, 3);
    Check.row("held on", Scene.ground(x), 3, 1, 0, 1, 0, 1, 1, 0, 0);
    TeleStack y = Scene.craftAt(0, Scene.WAITING, true);
    y.tune(2, 2, 2);
    y.begin(0);
    Scene.send(y, 1);
    Scene.ticks(y, 2);
    Scene.hear(y);
    Check.row("held at the limit", Scene.ground(y), 3, 1, 0, 1, 0, 0, 2, 2, 0);
    y.tick();
    Check.due("mode before it runs out", y.ground(0), 3);
    Check.due("tick() that runs out", y.tick(), -1);
    Check.row("alarm 5", Scene.ground(y), 0, 1, 1, 0, 0, 0, 2, 0, 5);
  }

  private static void aCheckingGroundGivesUp() {
    TeleStack x = new TeleStack();
    x.tune(1, 9, 2);
    x.begin(1);
    Check.due("tick()", x.tick(), -1);
    Check.row("checking", Scene.ground(x), 4, 0, 0, 0, 0, 0, 1, 1, 0);
    Check.due("tick()", x.tick(), -1);
    Check.row("alarm 5", Scene.ground(x), 0, 0, 0, 0, 0, 0, 1, 0, 5);
  }

  private static void aStartingGroundTriesAgain() {
    for (int how = 2; how <= 3; how++) {
      TeleStack x = new TeleStack();
      x.tune(1, 2, 2);
      x.number(6);
      x.begin(how);
      Check.due("tick()", x.tick(), how - 1);
      Check.row("sent", Scene.ground(x), 5, 6, 6, 0, 0, 0, 1, 2, 0);
      Check.due("tick()", x.tick(), -1);
      Check.due("tick() that runs out", x.tick(), how - 1);
      Check.row("sent again", Scene.ground(x), 5, 6, 6, 0, 0, 0, 2, 2, 0);
      Check.row("its frame", Scene.flight(x, 1), how - 1, how == 3 ? 6 : 0, 0);
      Check.due("tick()", x.tick(), -1);
      Check.due("tick() at the limit", x.tick(), -1);
      Check.row("alarm 5", Scene.ground(x), 0, 6, 6, 0, 0, 0, 2, 0, 5);
      Check.due("up frames", x.ground(9), 2);
    }
  }

  private static void aResendingGroundSendsTheSlotToo() {
    TeleStack x = Scene.groundIn(Scene.RESENDING);
    x.command(77);
    Check.due("tick() sends the marked one", x.tick(), 0);
    Check.row("marked one", Scene.flight(x, x.ground(9) - 1), 0, 0, 1);
    Check.due("tick() sends the slot", x.tick(), 0);
    Check.row("slot", Scene.flight(x, x.ground(9) - 1), 0, 1, 77);
    Check.row("ground", Scene.ground(x), 2, 2, 0, 2, 0, 0, 2, 5, 0);
  }

  private static void aTwentyFirstFrameIsLost() {
    TeleStack x = new TeleStack();
    for (int i = 0; i < 19; i++) {
      Scene.fly(x, i % 16, 100 + i);
    }
    x.begin(0);
    Scene.send(x, 1);
    Check.due("up frames", x.ground(9), 20);
    Scene.send(x, 2);
    Check.due("up frames", x.ground(9), 20);
    Check.row("the last of them", Scene.flight(x, 19), 0, 3, 1);
    Check.row("the lost one is unacknowledged", Scene.ground(x), 1, 5, 3, 2, 0, 0, 1, 5, 0);
    x.end();
    x.begin(2);
    Check.due("tick() of a lost UNLOCK", x.tick(), 1);
    Check.due("timer", x.ground(7), 5);
    x.drop(0);
    x.end();
    x.begin(3);
    Check.due("tick() with room again", x.tick(), 2);
    Check.row("the last of them", Scene.flight(x, 19), 2, 5, 0);
  }
}
