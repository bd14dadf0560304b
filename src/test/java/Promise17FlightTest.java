final class Promise17FlightTest {
  public static void main(String[] args) {
    eachKindIsTold();
    anotherWhatIsZero();
    noSuchFrameIsRefused();
    Check.close();
  }

  private static TeleStack threeKinds() {
    TeleStack x = new TeleStack();
    Scene.fly(x, 12, -8);
    Scene.flyUnlock(x);
    Scene.flySet(x, 14);
    return x;
  }

  private static void eachKindIsTold() {
    TeleStack x = threeKinds();
    Check.row("COMMAND", Scene.flight(x, 0), 0, 12, -8);
    Check.row("UNLOCK", Scene.flight(x, 1), 1, 0, 0);
    Check.row("SET", Scene.flight(x, 2), 2, 14, 0);
    x.drop(0);
    Check.row("UNLOCK, first now", Scene.flight(x, 0), 1, 0, 0);
    x.begin(0);
    Scene.send(x, 6);
    Check.row("COMMAND, last now", Scene.flight(x, 2), 0, 14, 6);
  }

  private static void anotherWhatIsZero() {
    TeleStack x = threeKinds();
    for (int what : new int[] {-1, 3, 4, Integer.MIN_VALUE, Integer.MAX_VALUE}) {
      for (int k = 0; k < 3; k++) {
        Check.due("flight(" + k + ", " + what + ")", x.flight(k, what), 0);
      }
    }
  }

  private static void noSuchFrameIsRefused() {
    for (int k : new int[] {-1, 3, 20, Integer.MIN_VALUE, Integer.MAX_VALUE}) {
      TeleStack x = threeKinds();
      Check.refused("flight", x, IndexOutOfBoundsException.class, () -> x.flight(k, 0));
      Check.refused("flight", x, IndexOutOfBoundsException.class, () -> x.flight(k, 3));
    }
    TeleStack y = new TeleStack();
    Check.refused("flight of none", y, IndexOutOfBoundsException.class, () -> y.flight(0, 9));
  }
}
