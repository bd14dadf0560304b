final class Promise18PacketsTest {
  public static void main(String[] args) {
    bothChannelsCount();
    idlePacketsDoNotCount();
    lostPacketsDoNotCount();
    fortyAreTheMost();
    Check.close();
  }

  private static void bothChannelsCount() {
    TeleStack x = new TeleStack();
    x.packet(0, 1, 0);
    x.packet(0, 2, 0);
    x.packet(0, 3, 0);
    x.packet(1, 4, 1);
    Check.due("packets() before a frame", x.packets(), 0);
    x.frame(0, false);
    Check.due("packets() of one frame", x.packets(), 3);
    x.frame(1, false);
    Check.due("packets() of both", x.packets(), 4);
  }

  private static void idlePacketsDoNotCount() {
    TeleStack x = new TeleStack();
    for (int i = 0; i < 20; i++) {
      x.frame(i % 2, false);
    }
    Check.due("packets()", x.packets(), 0);
  }

  private static void lostPacketsDoNotCount() {
    TeleStack x = new TeleStack();
    x.packet(0, 1, 4);
    x.packet(0, 2, 4);
    x.frame(0, true);
    Check.due("packets()", x.packets(), 0);
    x.frame(0, false);
    Check.due("packets()", x.packets(), 1);
  }

  private static void fortyAreTheMost() {
    TeleStack x = new TeleStack();
    for (int i = 1; i <= 15; i++) {
      x.packet(0, i, 0);
      x.packet(0, i, 0);
      x.packet(0, i, 0);
      x.frame(0, false);
      Check.due("packets()", x.packets(), Math.min(40, 3 * i));
    }
  }
}
