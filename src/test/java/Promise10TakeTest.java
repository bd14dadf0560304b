import java.util.NoSuchElementException;

final class Promise10TakeTest {
  public static void main(String[] args) {
    commandsComeOutInOrder();
    aWaitingCraftOpens();
    aLockedCraftStaysLocked();
    anEmptyQueueIsRefused();
    Check.close();
  }

  private static void commandsComeOutInOrder() {
    TeleStack x = new TeleStack();
    Scene.comeIn(x, 0, 31);
    Scene.comeIn(x, 1, 32);
    Check.due("take()", x.take(), 31);
    Scene.comeIn(x, 2, 33);
    Scene.comeIn(x, 3, 34);
    Check.due("queue", x.craft(3), 3);
    Check.due("take()", x.take(), 32);
    Check.due("take()", x.take(), 33);
    Check.due("take()", x.take(), 34);
    Check.row("craft", Scene.craft(x), 0, 4, 0, 0);
  }

  private static void aWaitingCraftOpens() {
    TeleStack x = Scene.craftAt(9, Scene.WAITING, true);
    Check.due("take()", x.take(), 901);
    Check.row("AGAIN stays", Scene.craft(x), 0, 9, 1, 2);
    Check.due("take()", x.take(), 902);
    Check.row("open still", Scene.craft(x), 0, 9, 1, 1);
  }

  private static void aLockedCraftStaysLocked() {
    TeleStack x = new TeleStack();
    Scene.comeIn(x, 0, 41);
    Scene.comeIn(x, 9, 42);
    Check.row("locked", Scene.craft(x), 2, 1, 0, 1);
    Check.due("take()", x.take(), 41);
    Check.row("locked still", Scene.craft(x), 2, 1, 0, 0);
  }

  private static void anEmptyQueueIsRefused() {
    TeleStack x = new TeleStack();
    Check.refused("take() of a new one", x, NoSuchElementException.class, () -> x.take());
    Scene.comeIn(x, 0, 41);
    x.take();
    Check.refused("take() of all taken", x, NoSuchElementException.class, () -> x.take());
  }
}
