final class Promise09DropTest {
  public static void main(String[] args) {
    theFrameAtKIsLost();
    wrongPlacesAreRefused();
    Check.close();
  }

  private static void theFrameAtKIsLost() {
    TeleStack x = new TeleStack();
    x.begin(0);
    Scene.send(x, 11, 12, 13);
    x.drop(1);
    Check.due("up frames", x.ground(9), 2);
    Check.row("first of the rest", Scene.flight(x, 0), 0, 0, 11);
    Check.row("second of the rest", Scene.flight(x, 1), 0, 2, 13);
    x.drop(1);
    x.drop(0);
    Check.due("up frames", x.ground(9), 0);
    Check.row("the craft saw none", Scene.craft(x), 0, 0, 0, 0);
    Check.row("the ground knows nothing", Scene.ground(x), 1, 3, 0, 3, 0, 0, 1, 5, 0);
  }

  private static void wrongPlacesAreRefused() {
    TeleStack x = new TeleStack();
    Check.refused("drop(0) of none", x, IndexOutOfBoundsException.class, () -> x.drop(0));
    Scene.fly(x, 0, 1);
    Scene.fly(x, 1, 2);
    for (int k : new int[] {-1, 2, 20, Integer.MIN_VALUE, Integer.MAX_VALUE}) {
      Check.refused("drop(" + k + ")", x, IndexOutOfBoundsException.class, () -> x.drop(k));
    }
  }
}
