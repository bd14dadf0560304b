final class Promise14FrameTest {
  public static void main(String[] args) {
    thePointerIsTheFirstTag();
    anIdlePacketFillsTheFrame();
    aTagIsKnownByItsPlace();
    aPacketRunsThroughFrames();
    aLostFrameForgetsTheBeginning();
    outOfStepUntilATagComes();
    theCountGoesRound();
    sixteenLostFramesAreNotSeen();
    countsOfChannelsAreApart();
    aFortyFirstPacketIsNotGot();
    noSuchChannelIsRefused();
    Check.close();
  }

  private static void thePointerIsTheFirstTag() {
    for (int length = 0; length <= 20; length++) {
      TeleStack x = new TeleStack();
      x.packet(0, 5, length);
      x.packet(0, 6, 20);
      Check.due("first frame", x.frame(0, false), 0);
      for (int i = 1; i < 4; i++) {
        int place = length + 2 - 6 * i;
        int due = place >= 0 && place < 6 ? place : 6;
        Check.due("frame " + i + ", length " + length, x.frame(0, false), due);
      }
    }
  }

  private static void anIdlePacketFillsTheFrame() {
    for (int cells = 0; cells <= 5; cells++) {
      TeleStack x = new TeleStack();
      if (cells == 1) {
        x.packet(0, 5, 5);
        x.frame(0, false);
      } else if (cells > 1) {
        x.packet(0, 5, cells - 2);
      }
      Check.due("cells", x.craft(4), cells);
      int due = cells == 0 || cells > 1 ? 0 : 1;
      Check.due("pointer with " + cells, x.frame(0, false), due);
      Check.due("cells left of " + cells, x.craft(4), cells == 5 ? 1 : 0);
      Check.due("packets() with " + cells, x.packets(), cells == 0 ? 0 : 1);
      Check.due("next pointer with " + cells, x.frame(0, false), cells == 5 ? 1 : 0);
      Check.due("cells left", x.craft(4), 0);
      x.packet(0, 8, 4);
      Check.due("pointer", x.frame(0, false), 0);
      Check.row("next packet", Scene.got(x, x.packets() - 1), 0, 8, 4, 4 * 56 + 6);
      Check.due("packets()", x.packets(), cells == 0 ? 1 : 2);
    }
    TeleStack six = new TeleStack();
    six.packet(0, 5, 4);
    six.frame(0, false);
    Check.due("no idle packet behind 6 cells", six.craft(4), 0);
  }

  private static void aTagIsKnownByItsPlace() {
    TeleStack x = new TeleStack();
    // The cells of data 7 .. 26 are all like tags.
    x.packet(0, 1, 20);
    Check.due("frame 0", x.frame(0, false), 0);
    Check.due("frame 1", x.frame(0, false), 6);
    Check.due("frame 2", x.frame(0, false), 6);
    Check.due("frame 3", x.frame(0, false), 4);
  }

  private static void aPacketRunsThroughFrames() {
    TeleStack x = new TeleStack();
    x.packet(1, 9, 12);
    x.packet(1, 8, 2);
    x.frame(1, false);
    x.frame(1, false);
    Check.due("packets() before its end", x.packets(), 0);
    x.frame(1, false);
    Check.due("packets()", x.packets(), 2);
    Check.row("first", Scene.got(x, 0), 1, 9, 12, 12 * 63 + 66);
    Check.row("second", Scene.got(x, 1), 1, 8, 2, 2 * 56 + 1);
  }

  private static void aLostFrameForgetsTheBeginning() {
    TeleStack x = new TeleStack();
    x.packet(0, 2, 8);
    x.packet(0, 3, 0);
    x.packet(0, 4, 4);
    Check.due("begins", x.frame(0, false), 0);
    Check.due("is lost", x.frame(0, true), 4);
    Check.due("packets()", x.packets(), 0);
    Check.due("comes out of count", x.frame(0, false), 0);
    Check.due("packets()", x.packets(), 1);
    Check.row("the one that is whole", Scene.got(x, 0), 0, 4, 4, 4 * 28 + 6);
    TeleStack y = new TeleStack();
    y.packet(0, 2, 12);
    y.packet(0, 3, 2);
    y.frame(0, true);
    Check.due("all of the first is data", y.frame(0, false), 6);
    Check.due("the second begins here", y.frame(0, false), 2);
    Check.due("packets()", y.packets(), 1);
    Check.row("only the second", Scene.got(y, 0), 0, 3, 2, 43);
    TeleStack z = new TeleStack();
    z.packet(0, 2, 6);
    z.packet(0, 3, 2);
    z.frame(0, true);
    Check.due("read from the pointer on", z.frame(0, false), 2);
    Check.row("only the second", Scene.got(z, 0), 0, 3, 2, 43);
    Check.due("packets()", z.packets(), 1);
  }

  private static void outOfStepUntilATagComes() {
    TeleStack x = new TeleStack();
    x.packet(0, 7, 20);
    x.packet(0, 6, 3);
    x.frame(0, false);
    x.frame(0, true);
    Check.due("out of step", x.frame(0, false), 6);
    Check.due("in step again", x.frame(0, false), 4);
    Check.due("packets()", x.packets(), 0);
    Check.due("the rest", x.frame(0, false), 3);
    Check.due("packets()", x.packets(), 1);
    Check.row("got", Scene.got(x, 0), 0, 6, 3, 3 * 42 + 3);
    TeleStack y = new TeleStack();
    y.packet(1, 7, 20);
    y.packet(1, 6, 20);
    y.frame(1, true);
    Check.due("out of step", y.frame(1, false), 6);
    Check.due("and still", y.frame(1, false), 6);
    Check.due("in step", y.frame(1, false), 4);
    for (int i = 0; i < 4; i++) {
      y.frame(1, false);
    }
    Check.due("packets()", y.packets(), 1);
    Check.row("got", Scene.got(y, 0), 1, 6, 20, 20 * 42 + 190);
  }

  private static void theCountGoesRound() {
    TeleStack x = new TeleStack();
    for (int i = 0; i < 10; i++) {
      x.packet(0, 1 + i, 16);
      for (int j = 0; j < 3; j++) {
        x.frame(0, false);
      }
      Check.due("packets() after " + (3 * i + 3) + " frames", x.packets(), i + 1);
    }
    TeleStack y = new TeleStack();
    for (int i = 0; i < 15; i++) {
      y.frame(0, false);
    }
    y.packet(0, 9, 10);
    y.frame(0, false);
    Check.due("packets() after count 15", y.packets(), 0);
    y.frame(0, false);
    Check.due("packets() after count 0", y.packets(), 1);
  }

  private static void sixteenLostFramesAreNotSeen() {
    for (int lost = 14; lost <= 18; lost++) {
      TeleStack x = new TeleStack();
      x.packet(0, 9, 10);
      x.frame(0, false);
      for (int i = 0; i < lost; i++) {
        x.frame(0, true);
      }
      x.packet(0, 50, 4);
      x.frame(0, false);
      Check.due("packets() after " + lost + " lost", x.packets(), 1);
      if (lost == 16) {
        Check.row("joined", Scene.got(x, 0), 0, 9, 10, 63 + 64 + 65 + 66 + 50 + 4 + 4 * 350 + 6);
      } else {
        Check.row("the new one", Scene.got(x, 0), 0, 50, 4, 4 * 350 + 6);
      }
    }
    aCellOfDataReadAsALength();
  }

  private static void aCellOfDataReadAsALength() {
    TeleStack x = new TeleStack();
    for (int i = 0; i < 13; i++) {
      x.frame(0, true);
    }
    x.packet(0, 20, 20);
    x.frame(0, true);
    x.frame(0, true);
    x.frame(0, true);
    // 16 are lost: the ground, that awaits 0, reads cells 16 and 17 of data as tag and length.
    Check.due("pointer", x.frame(0, false), 4);
    // Of its 157 cells 4 are read; an idle frame has the cells 0, 4, 0, 0, 0, 0.
    for (int i = 0; i < 25; i++) {
      x.frame(0, false);
    }
    Check.due("packets() before the last 3 cells", x.packets(), 0);
    x.frame(0, false);
    Check.due("packets()", x.packets(), 1);
    Check.row("joined", Scene.got(x, 0), 0, 156, 157, 158 + 159 + 26 * 4);
  }

  private static void countsOfChannelsAreApart() {
    TeleStack x = new TeleStack();
    x.packet(0, 9, 10);
    x.packet(1, 8, 10);
    x.frame(0, false);
    x.frame(1, false);
    x.frame(1, false);
    x.frame(0, false);
    Check.due("packets()", x.packets(), 2);
    Check.row("first", Scene.got(x, 0), 1, 8, 10, 560 + 45);
    Check.row("second", Scene.got(x, 1), 0, 9, 10, 630 + 45);
    TeleStack y = new TeleStack();
    y.packet(0, 9, 10);
    y.packet(1, 8, 10);
    y.frame(0, true);
    y.frame(0, false);
    y.frame(1, false);
    y.frame(1, false);
    Check.due("a loss on one is none on the other", y.packets(), 1);
  }

  private static void aFortyFirstPacketIsNotGot() {
    TeleStack x = new TeleStack();
    for (int i = 0; i < 39; i++) {
      x.packet(i % 2, 1 + i, 4);
      x.frame(i % 2, false);
    }
    Check.due("packets()", x.packets(), 39);
    x.packet(0, 60, 4);
    x.packet(0, 61, 4);
    x.packet(1, 62, 4);
    x.frame(0, false);
    Check.due("packets()", x.packets(), 40);
    x.frame(0, false);
    x.frame(1, false);
    Check.due("packets()", x.packets(), 40);
    Check.row("the last", Scene.got(x, 39), 0, 60, 4, 4 * 420 + 6);
  }

  private static void noSuchChannelIsRefused() {
    TeleStack x = new TeleStack();
    x.packet(0, 1, 1);
    for (int c : new int[] {-1, 2, Integer.MIN_VALUE, Integer.MAX_VALUE}) {
      Check.refused("frame", x, IllegalArgumentException.class, () -> x.frame(c, false));
      Check.refused("lost frame", x, IllegalArgumentException.class, () -> x.frame(c, true));
    }
    x.packet(0, 2, 10);
    x.frame(0, false);
    x.frame(0, false);
    x.frame(0, false);
    Check.due("no count was used", x.packets(), 2);
  }
}
