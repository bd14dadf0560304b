final class Promise13PacketTest {
  public static void main(String[] args) {
    itsCellsGoBehindTheStream();
    cellsOfDataFollowTheTag();
    aStreamHasAtMostSixtyCells();
    channelsAreApart();
    wrongValuesAreRefused();
    Check.close();
  }

  private static void itsCellsGoBehindTheStream() {
    TeleStack x = new TeleStack();
    Check.due("packet(0, 1, 0)", x.packet(0, 1, 0), true);
    Check.due("cells", x.craft(4), 2);
    Check.due("packet(0, 99, 20)", x.packet(0, 99, 20), true);
    Check.due("cells", x.craft(4), 24);
    Check.due("packets() before a frame", x.packets(), 0);
  }

  private static void cellsOfDataFollowTheTag() {
    for (int tag : new int[] {1, 2, 50, 99}) {
      for (int length : new int[] {0, 1, 2, 19, 20}) {
        TeleStack x = new TeleStack();
        x.packet(1, tag, length);
        for (int i = 0; i < 4; i++) {
          x.frame(1, false);
        }
        int sum = length * tag * 7 + length * (length - 1) / 2;
        Check.row("packet", Scene.got(x, 0), 1, tag, length, sum);
        Check.due("packets()", x.packets(), 1);
      }
    }
  }

  private static void aStreamHasAtMostSixtyCells() {
    TeleStack x = new TeleStack();
    x.packet(0, 3, 20);
    x.packet(0, 4, 20);
    Check.due("cells", x.craft(4), 44);
    Check.due("one cell too many", x.packet(0, 5, 15), false);
    Check.due("many too many", x.packet(0, 5, 20), false);
    Check.due("cells", x.craft(4), 44);
    Check.due("just room", x.packet(0, 5, 14), true);
    Check.due("cells", x.craft(4), 60);
    Check.due("full", x.packet(0, 5, 0), false);
    x.frame(0, false);
    Check.due("cells after a frame", x.craft(4), 54);
    Check.due("room again", x.packet(0, 6, 4), true);
    for (int i = 0; i < 10; i++) {
      x.frame(0, false);
    }
    Check.due("packets()", x.packets(), 4);
    Check.row("third", Scene.got(x, 2), 0, 5, 14, 14 * 35 + 91);
    Check.row("fourth", Scene.got(x, 3), 0, 6, 4, 4 * 42 + 6);
  }

  private static void channelsAreApart() {
    TeleStack x = new TeleStack();
    x.packet(1, 3, 5);
    Check.due("cells of channel 0", x.craft(4), 0);
    Check.due("cells of channel 1", x.craft(5), 7);
    x.packet(0, 3, 0);
    Check.due("cells of channel 0", x.craft(4), 2);
    Check.due("cells of channel 1", x.craft(5), 7);
  }

  private static void wrongValuesAreRefused() {
    int[][] wrongs = {
      {-1, 1, 1}, {2, 1, 1}, {Integer.MIN_VALUE, 1, 1}, {Integer.MAX_VALUE, 1, 1},
      {0, 0, 1}, {0, -1, 1}, {0, 100, 1}, {1, Integer.MIN_VALUE, 1}, {1, Integer.MAX_VALUE, 1},
      {0, 1, -1}, {0, 1, 21}, {1, 1, Integer.MIN_VALUE}, {1, 1, Integer.MAX_VALUE}
    };
    for (int[] w : wrongs) {
      TeleStack x = new TeleStack();
      x.packet(0, 1, 1);
      Check.refused(
          "packet(" + w[0] + ", " + w[1] + ", " + w[2] + ")",
          x,
          IllegalArgumentException.class,
          () -> x.packet(w[0], w[1], w[2]));
    }
    TeleStack full = new TeleStack();
    full.packet(0, 1, 20);
    full.packet(0, 1, 20);
    full.packet(0, 1, 14);
    Check.refused("a full stream", full, IllegalArgumentException.class, () -> full.packet(0, 0, 1));
  }
}
