final class Promise08RaiseTest {
  public static void main(String[] args) {
    theFrameAtKComesIn();
    theExpectedCommandIsQueued();
    aFullQueueMakesItWait();
    everyDistanceAtEveryGate();
    unlockAtEveryGate();
    setAtEveryGate();
    wrongPlacesAreRefused();
    Check.close();
  }

  private static void theFrameAtKComesIn() {
    TeleStack x = new TeleStack();
    x.begin(0);
    Scene.send(x, 11, 12, 13);
    x.raise(2);
    Check.row("after number 2", Scene.craft(x), 0, 0, 1, 0);
    Check.due("up frames", x.ground(9), 2);
    x.raise(0);
    Check.row("after number 0", Scene.craft(x), 0, 1, 0, 1);
    Check.row("what is left", Scene.flight(x, 0), 0, 1, 12);
    x.raise(0);
    Check.row("after number 1", Scene.craft(x), 0, 2, 0, 2);
    Check.due("take()", x.take(), 11);
    Check.due("take()", x.take(), 12);
    Check.due("the ground does not know of it", x.ground(3), 3);
    TeleStack y = new TeleStack();
    y.begin(0);
    Scene.send(y, 11, 12, 13);
    y.raise(1);
    Check.row("first of the rest", Scene.flight(y, 0), 0, 0, 11);
    Check.row("second of the rest", Scene.flight(y, 1), 0, 2, 13);
  }

  private static void theExpectedCommandIsQueued() {
    TeleStack x = new TeleStack();
    Scene.comeSet(x, 15);
    Scene.comeIn(x, 0, 50);
    Check.row("one ahead", Scene.craft(x), 0, 15, 1, 0);
    Scene.comeIn(x, 15, 51);
    Check.row("the expected one, modulo 16", Scene.craft(x), 0, 0, 0, 1);
    Check.due("take()", x.take(), 51);
  }

  private static void aFullQueueMakesItWait() {
    TeleStack x = new TeleStack();
    for (int i = 0; i < 3; i++) {
      Scene.comeIn(x, i, 60 + i);
      Check.row("queued", Scene.craft(x), 0, i + 1, 0, i + 1);
    }
    Scene.comeIn(x, 3, 63);
    Check.row("no room", Scene.craft(x), 1, 3, 1, 3);
    Check.due("take()", x.take(), 60);
    Check.row("open, and the fourth is not there", Scene.craft(x), 0, 3, 1, 2);
    Scene.comeIn(x, 3, 64);
    Check.row("room again", Scene.craft(x), 0, 4, 0, 3);
    Check.due("take()", x.take(), 61);
    Check.due("take()", x.take(), 62);
    Check.due("take()", x.take(), 64);
  }

  private static void everyDistanceAtEveryGate() {
    for (int gate = 0; gate <= 2; gate++) {
      for (int again = gate == 1 ? 1 : 0; again <= 1; again++) {
        for (int d = 0; d <= 15; d++) {
          int expected = (d * 5 + 3) % 16;
          TeleStack x = Scene.craftAt(expected, gate, again == 1);
          int queued = x.craft(3);
          Scene.comeIn(x, (expected + d) % 16, 70);
          int[] due = {gate, expected, again, queued};
          if (d == 0 && gate == 0) {
            due = new int[] {0, (expected + 1) % 16, 0, 1};
          } else if (d >= 1 && d <= 4 && gate == 0) {
            due[2] = 1;
          } else if (d >= 5 && d <= 10) {
            due[0] = 2;
          }
          Check.row("gate " + gate + ", again " + again + ", d " + d, Scene.craft(x), due);
        }
      }
    }
  }

  private static void unlockAtEveryGate() {
    for (int gate = 0; gate <= 2; gate++) {
      TeleStack x = Scene.craftAt(6, gate, true);
      Scene.comeUnlock(x);
      Check.row("UNLOCK at gate " + gate, Scene.craft(x), 0, 6, 0, gate == 1 ? 3 : 0);
    }
  }

  private static void setAtEveryGate() {
    for (int gate = 0; gate <= 1; gate++) {
      TeleStack x = Scene.craftAt(6, gate, true);
      Scene.comeSet(x, 13);
      Check.row("SET at gate " + gate, Scene.craft(x), 0, 13, 0, gate == 1 ? 3 : 0);
    }
    TeleStack x = Scene.craftAt(6, Scene.LOCKED, true);
    Scene.comeSet(x, 13);
    Check.row("SET when locked", Scene.craft(x), 2, 6, 1, 0);
    Check.due("it is not on its way any more", x.ground(9), 0);
  }

  private static void wrongPlacesAreRefused() {
    TeleStack x = new TeleStack();
    Check.refused("raise(0) of none", x, IndexOutOfBoundsException.class, () -> x.raise(0));
    Scene.fly(x, 0, 1);
    Scene.fly(x, 1, 2);
    for (int k : new int[] {-1, 2, 20, Integer.MIN_VALUE, Integer.MAX_VALUE}) {
      Check.refused("raise(" + k + ")", x, IndexOutOfBoundsException.class, () -> x.raise(k));
    }
  }
}
