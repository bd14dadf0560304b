import java.util.NoSuchElementException;

final class Promise01NewObjectTest {
  public static void main(String[] args) {
    tellsNothingButZeros();
    hasNothingOnItsWay();
    hasTheFirstWindowLimitAndSpan();
    isApartFromOthers();
    Check.close();
  }

  private static void tellsNothingButZeros() {
    TeleStack x = new TeleStack();
    for (int what = 0; what <= 10; what++) {
      Check.due("new ground(" + what + ")", x.ground(what), 0);
    }
    for (int what = 0; what <= 5; what++) {
      Check.due("new craft(" + what + ")", x.craft(what), 0);
    }
    Check.due("new packets()", x.packets(), 0);
  }

  private static void hasNothingOnItsWay() {
    TeleStack x = new TeleStack();
    Check.refused("new flight", x, IndexOutOfBoundsException.class, () -> x.flight(0, 0));
    Check.refused("new raise", x, IndexOutOfBoundsException.class, () -> x.raise(0));
    Check.refused("new answer", x, IndexOutOfBoundsException.class, () -> x.answer(0, false));
    Check.refused("new take", x, NoSuchElementException.class, () -> x.take());
    Check.refused("new got", x, NoSuchElementException.class, () -> x.got(0, 0));
    Check.due("new tick()", x.tick(), -1);
  }

  private static void hasTheFirstWindowLimitAndSpan() {
    TeleStack x = new TeleStack();
    x.begin(0);
    Scene.send(x, 1, 2, 3);
    x.command(4);
    Check.due("tick() beyond the window of 3", x.tick(), -1);
    Check.due("timer of span 5 after a tick", x.ground(7), 4);
    Check.due("unacknowledged", x.ground(3), 3);
    TeleStack y = new TeleStack();
    y.begin(0);
    Scene.send(y, 1);
    Scene.ticks(y, 15);
    Check.row("after 3 spans", Scene.ground(y), 1, 1, 0, 1, 0, 0, 4, 5, 0);
    Scene.ticks(y, 5);
    Check.row("after the limit of 4", Scene.ground(y), 0, 1, 1, 0, 0, 0, 4, 0, 5);
  }

  private static void isApartFromOthers() {
    TeleStack x = new TeleStack();
    x.begin(0);
    Scene.send(x, 1);
    x.raise(0);
    x.report();
    x.packet(0, 1, 4);
    x.frame(0, false);
    TeleStack y = new TeleStack();
    Check.row("another object's ground", Scene.ground(y), 0, 0, 0, 0, 0, 0, 0, 0, 0);
    Check.row("another object's craft", Scene.craft(y), 0, 0, 0, 0);
    Check.due("another object's packets", y.packets(), 0);
    Check.due("another object's reports", y.ground(10), 0);
  }
}
