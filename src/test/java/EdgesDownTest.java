/** The boundary cases of 'Terms', DOWN: packets, streams, frames, and the ground that reads them. */
final class EdgesDownTest {
  public static void main(String[] args) {
    theLeastAndTheMostTag();
    theShortestAndTheLongestPacket();
    aStreamOfJustSixtyCells();
    oneCellMoreThanSixty();
    aFullStreamHasRoomAfterAFrame();
    aFullStreamIsOneChannelsOwn();
    theCountBehindFifteenIsZero();
    aLossAtTheEndOfTheCount();
    theCountOfALostFrameIsUsed();
    theCountIsEachChannelsOwn();
    aWholeRoundOfLostFrames();
    aWholeRoundIsLostAtFirst();
    everyPlaceOfTheFirstTag();
    theFirstOfSeveralTags();
    noTagAtAll();
    aTagOfAnIdlePacketIsATag();
    anEmptyStreamSendsAnIdlePacket();
    oneToFourCellsAreFilledUp();
    fiveCellsAreFilledByMoreThanAFrame();
    sixCellsAreNotFilledUp();
    cellsOfAnIdlePacket();
    aLostFrameTakesItsCells();
    inStepAtFirst();
    outOfCountWithATagInEveryPlace();
    outOfCountWithoutATag();
    outOfStepThoughTheCountFits();
    aBeginningOfEveryLength();
    aPacketWithoutDataIsWhole();
    aPacketThatEndsWithItsFrame();
    threePacketsInOneFrame();
    theFortiethPacketIsGot();
    theFortyFirstPacketIsNot();
    idlePacketsLeaveRoomForForty();
    theLeastAndTheMostSum();
    Check.close();
  }

  private static int sum(int tag, int length) {
    int sum = 0;
    for (int i = 0; i < length; i++) {
      sum += tag * 7 + i;
    }
    return sum;
  }

  private static void frames(TeleStack x, int channel, int many) {
    for (int i = 0; i < many; i++) {
      x.frame(channel, false);
    }
  }

  private static void lose(TeleStack x, int channel, int many) {
    for (int i = 0; i < many; i++) {
      x.frame(channel, true);
    }
  }

  private static void gotLast(TeleStack x, int channel, int tag, int length) {
    int[] last = Scene.got(x, x.packets() - 1);
    Check.row("the last packet", last, channel, tag, length, sum(tag, length));
  }

  // "A PACKET has a TAG 1 .. 99 and a length 0 .. 20; it is written as its tag, its length, and so
  // many CELLS of data: cell i is tag * 7 + i."

  private static void theLeastAndTheMostTag() {
    for (int channel = 0; channel <= 1; channel++) {
      for (int tag : new int[] {1, 99}) {
        TeleStack x = new TeleStack();
        Check.due("packet, tag " + tag, x.packet(channel, tag, 4), true);
        Check.due("pointer", x.frame(channel, false), 0);
        Check.due("packets()", x.packets(), 1);
        gotLast(x, channel, tag, 4);
      }
    }
  }

  private static void theShortestAndTheLongestPacket() {
    for (int channel = 0; channel <= 1; channel++) {
      for (int length : new int[] {0, 20}) {
        TeleStack x = new TeleStack();
        Check.due("packet, length " + length, x.packet(channel, 50, length), true);
        Check.due("cells", x.craft(4 + channel), length + 2);
        frames(x, channel, 4);
        Check.due("packets()", x.packets(), 1);
        gotLast(x, channel, 50, length);
      }
    }
  }

  // "A channel has a STREAM of cells, at most 60"; promise 13: "false, changing nothing, when that
  // would have more than 60 cells."

  private static void aStreamOfJustSixtyCells() {
    for (int cells = 38; cells <= 58; cells++) {
      TeleStack x = Scene.cells(1, cells);
      Check.due("packet behind " + cells, x.packet(1, 7, 58 - cells), true);
      Check.due("cells", x.craft(5), 60);
      frames(x, 1, 10);
      gotLast(x, 1, 7, 58 - cells);
      Check.due("cells", x.craft(5), 0);
    }
  }

  private static void oneCellMoreThanSixty() {
    for (int cells = 39; cells <= 60; cells++) {
      TeleStack x = Scene.cells(1, cells);
      Check.due("packet behind " + cells, x.packet(1, 7, Math.max(0, 59 - cells)), false);
      Check.due("cells", x.craft(5), cells);
    }
  }

  private static void aFullStreamHasRoomAfterAFrame() {
    for (int lost = 0; lost <= 1; lost++) {
      TeleStack x = Scene.cells(0, 60);
      Check.due("pointer", x.frame(0, lost == 1), 0);
      Check.due("cells", x.craft(4), 54);
      Check.due("7 cells", x.packet(0, 8, 5), false);
      Check.due("6 cells", x.packet(0, 8, 4), true);
      Check.due("2 cells more", x.packet(0, 8, 0), false);
      frames(x, 0, 10);
      gotLast(x, 0, 8, 4);
    }
  }

  private static void aFullStreamIsOneChannelsOwn() {
    TeleStack x = Scene.cells(0, 60);
    Check.due("packet on channel 1", x.packet(1, 8, 20), true);
    Check.due("packet on channel 0", x.packet(0, 8, 0), false);
    Check.due("cells of channel 0", x.craft(4), 60);
    Check.due("cells of channel 1", x.craft(5), 22);
  }

  // "a COUNT (0 .. 15, one more than that of the channel's frame before it, modulo 16; 0 at first)"

  private static void theCountBehindFifteenIsZero() {
    for (int before = 14; before <= 17; before++) {
      TeleStack x = new TeleStack();
      frames(x, 0, before);
      x.packet(0, 5, 16);
      frames(x, 0, 3);
      Check.due("packets() behind " + before + " frames", x.packets(), 1);
      gotLast(x, 0, 5, 16);
    }
  }

  private static void aLossAtTheEndOfTheCount() {
    for (int before = 14; before <= 16; before++) {
      TeleStack x = new TeleStack();
      frames(x, 0, before);
      x.packet(0, 5, 16);
      x.packet(0, 6, 4);
      x.frame(0, false);
      x.frame(0, true);
      Check.due("pointer", x.frame(0, false), 6);
      Check.due("pointer", x.frame(0, false), 0);
      Check.due("packets() behind " + before + " frames", x.packets(), 1);
      gotLast(x, 0, 6, 4);
    }
  }

  // Promise 14: "(Lost or not, its count was used.)"

  private static void theCountOfALostFrameIsUsed() {
    TeleStack x = new TeleStack();
    x.packet(1, 5, 10);
    x.packet(1, 6, 10);
    x.frame(1, false);
    x.frame(1, true);
    frames(x, 1, 2);
    Check.due("packets(): the first is not whole", x.packets(), 1);
    gotLast(x, 1, 6, 10);
  }

  private static void theCountIsEachChannelsOwn() {
    for (int channel = 0; channel <= 1; channel++) {
      for (int others = 0; others <= 17; others++) {
        TeleStack x = new TeleStack();
        x.packet(channel, 5, 10);
        x.frame(channel, false);
        lose(x, 1 - channel, others);
        x.frame(channel, false);
        Check.due("packets(), " + others + " lost on the other", x.packets(), 1);
        gotLast(x, channel, 5, 10);
        x.packet(1 - channel, 6, 4);
        x.frame(1 - channel, false);
        Check.due("packets()", x.packets(), 2);
      }
    }
  }

  private static void aWholeRoundOfLostFrames() {
    for (int lost = 1; lost <= 33; lost++) {
      TeleStack x = new TeleStack();
      x.packet(0, 3, 8);
      x.frame(0, false);
      lose(x, 0, lost);
      x.packet(0, 4, 4);
      Check.due("pointer", x.frame(0, false), 0);
      Check.due("packets() behind " + lost + " lost", x.packets(), 1);
      if (lost % 16 == 0) {
        // The count fits, so the cells 4, 4, 28 and 29 end the beginning; 30 and 31 begin another.
        Check.row("joined", Scene.got(x, 0), 0, 3, 8, sum(3, 4) + 4 + 4 + 28 + 29);
      } else {
        gotLast(x, 0, 4, 4);
      }
    }
  }

  private static void aWholeRoundIsLostAtFirst() {
    TeleStack x = new TeleStack();
    lose(x, 0, 14);
    x.packet(0, 1, 15);
    x.packet(0, 6, 1);
    lose(x, 0, 2);
    // The ground awaits 0 and is in step, so the data 17 .. 21 and the tag 6 are read from 17 on.
    Check.due("pointer", x.frame(0, false), 5);
    Check.due("packets()", x.packets(), 0);
    frames(x, 0, 3);
    Check.due("packets()", x.packets(), 1);
    int data = (19 + 20 + 21 + 6) + (1 + 42 + 0 + 2 + 0 + 0) + (0 + 4 + 0 + 0 + 0 + 0) + (0 + 4);
    Check.row("17 is the tag, 18 the length", Scene.got(x, 0), 0, 17, 18, data);
  }

  // "a POINTER: the place 0 .. 5 of the first cell in it that is a tag, or 6 if none is."

  private static void everyPlaceOfTheFirstTag() {
    for (int place = 0; place <= 5; place++) {
      TeleStack x = new TeleStack();
      x.packet(0, 12, 4 + place);
      x.packet(0, 13, 20);
      x.frame(0, false);
      Check.due("pointer to place " + place, x.frame(0, false), place);
    }
  }

  private static void theFirstOfSeveralTags() {
    TeleStack x = new TeleStack();
    x.packet(0, 1, 0);
    x.packet(0, 2, 0);
    x.packet(0, 3, 5);
    x.packet(0, 4, 0);
    x.packet(0, 5, 0);
    Check.due("tags in the places 0, 2 and 4", x.frame(0, false), 0);
    Check.due("a tag in the place 5", x.frame(0, false), 5);
    TeleStack y = new TeleStack();
    y.packet(0, 1, 5);
    y.packet(0, 2, 0);
    y.packet(0, 3, 0);
    y.frame(0, false);
    Check.due("tags in the places 1, 3 and 5", y.frame(0, false), 1);
  }

  private static void noTagAtAll() {
    TeleStack x = new TeleStack();
    // 16 cells of data fill three frames but for the head, so the next tag is a frame's first.
    x.packet(0, 1, 16);
    x.packet(0, 2, 0);
    Check.due("the head's frame", x.frame(0, false), 0);
    Check.due("all data", x.frame(0, false), 6);
    Check.due("all data, to its end", x.frame(0, false), 6);
    Check.due("the next head", x.frame(0, false), 0);
    TeleStack y = new TeleStack();
    y.packet(0, 1, 3);
    y.packet(0, 2, 5);
    y.packet(0, 3, 0);
    Check.due("the first", y.frame(0, false), 0);
    Check.due("a length and data", y.frame(0, false), 6);
    Check.due("the third", y.frame(0, false), 0);
  }

  private static void aTagOfAnIdlePacketIsATag() {
    TeleStack x = new TeleStack();
    Check.due("an idle packet alone", x.frame(0, false), 0);
    for (int place = 1; place <= 5; place++) {
      TeleStack y = new TeleStack();
      y.packet(0, 9, 4 + place);
      y.frame(0, false);
      Check.due("an idle packet behind " + place, y.frame(0, false), place);
      gotLast(y, 0, 9, 4 + place);
    }
  }

  // "if the stream has fewer than 6 cells, an IDLE packet goes behind it: tag 0 with as many cells
  // of data (of 0) as it takes to make 6, or none if 5 are there."

  private static void anEmptyStreamSendsAnIdlePacket() {
    for (int channel = 0; channel <= 1; channel++) {
      TeleStack x = new TeleStack();
      Check.due("pointer", x.frame(channel, false), 0);
      Check.due("cells", x.craft(4 + channel), 0);
      Check.due("packets()", x.packets(), 0);
      x.packet(channel, 9, 4);
      Check.due("pointer", x.frame(channel, false), 0);
      gotLast(x, channel, 9, 4);
    }
  }

  private static void oneToFourCellsAreFilledUp() {
    for (int cells = 1; cells <= 4; cells++) {
      TeleStack x = Scene.cells(0, cells);
      Check.due("pointer", x.frame(0, false), cells == 1 ? 1 : 0);
      Check.due("cells", x.craft(4), 0);
      Check.due("packets()", x.packets(), 1);
      x.packet(0, 9, 4);
      Check.due("pointer", x.frame(0, false), 0);
      Check.due("packets()", x.packets(), 2);
      gotLast(x, 0, 9, 4);
    }
  }

  private static void fiveCellsAreFilledByMoreThanAFrame() {
    TeleStack x = Scene.cells(0, 5);
    Check.due("pointer", x.frame(0, false), 0);
    Check.due("the idle packet's length is left", x.craft(4), 1);
    Check.due("packets()", x.packets(), 1);
    Check.due("packet behind it", x.packet(0, 9, 3), true);
    Check.due("cells", x.craft(4), 6);
    Check.due("pointer behind a length", x.frame(0, false), 1);
    Check.due("packets()", x.packets(), 2);
    gotLast(x, 0, 9, 3);
    TeleStack y = Scene.cells(0, 5);
    y.frame(0, false);
    Check.due("another idle packet behind the length", y.frame(0, false), 1);
    Check.due("cells", y.craft(4), 0);
    TeleStack z = Scene.cells(0, 5);
    z.frame(0, false);
    z.packet(0, 9, 2);
    Check.due("five again", z.craft(4), 5);
    Check.due("pointer", z.frame(0, false), 1);
    Check.due("one again", z.craft(4), 1);
    Check.due("packets()", z.packets(), 2);
    gotLast(z, 0, 9, 2);
  }

  private static void sixCellsAreNotFilledUp() {
    for (int cells = 6; cells <= 7; cells++) {
      TeleStack x = Scene.cells(1, cells);
      x.frame(1, false);
      Check.due("cells left of " + cells, x.craft(5), cells - 6);
    }
  }

  private static void cellsOfAnIdlePacket() {
    // How many cells the stream has, and what the six cells of the frame come to.
    int[][] rows = {{0, 0 + 4}, {2, 3 + 0 + 0 + 2}, {3, 3 + 1 + 21 + 0 + 1}, {4, 3 + 2 + 43 + 0}};
    for (int[] row : rows) {
      TeleStack x = new TeleStack();
      x.packet(0, 2, 10);
      x.frame(0, false);
      lose(x, 0, 16);
      if (row[0] > 0) {
        x.packet(0, 3, row[0] - 2);
      }
      // The count fits again: the whole frame is read as data of the packet that was begun.
      x.frame(0, false);
      int[] due = {0, 2, 10, sum(2, 4) + row[1]};
      Check.row("an idle packet behind " + row[0], Scene.got(x, 0), due);
    }
  }

  private static void aLostFrameTakesItsCells() {
    for (int cells = 0; cells <= 12; cells++) {
      TeleStack x = Scene.cells(1, cells);
      x.frame(1, true);
      int due = cells == 5 ? 1 : Math.max(0, cells - 6);
      Check.due("cells left of " + cells, x.craft(5), due);
      Check.due("packets()", x.packets(), 0);
    }
  }

  // "THE GROUND, for a channel, has the count that it awaits (0 at first), whether it is IN STEP (at
  // first), and the beginning of a packet (nothing at first)."

  private static void inStepAtFirst() {
    TeleStack x = new TeleStack();
    x.packet(0, 5, 10);
    x.frame(0, false);
    x.frame(0, false);
    Check.due("packets()", x.packets(), 1);
    TeleStack y = new TeleStack();
    y.packet(0, 5, 10);
    y.packet(0, 6, 4);
    y.frame(0, true);
    Check.due("pointer", y.frame(0, false), 6);
    Check.due("packets() when the first was lost", y.packets(), 0);
    y.frame(0, false);
    gotLast(y, 0, 6, 4);
  }

  // "otherwise the beginning is forgotten, and it is in step, and the cells from the pointer on are
  // read, if that is not 6"

  private static void outOfCountWithATagInEveryPlace() {
    for (int place = 0; place <= 5; place++) {
      for (int length = 0; length <= 5; length++) {
        TeleStack x = new TeleStack();
        x.packet(0, 12, 10 + place);
        x.packet(0, 13, length);
        x.packet(0, 14, 5);
        x.frame(0, false);
        x.frame(0, true);
        Check.due("pointer", x.frame(0, false), place);
        frames(x, 0, 3);
        Check.due("packets(), place " + place, x.packets(), 2);
        Check.row("behind the tag", Scene.got(x, 0), 0, 13, length, sum(13, length));
        gotLast(x, 0, 14, 5);
      }
    }
  }

  // "if it is 6, it is not in step, and nothing is read."

  private static void outOfCountWithoutATag() {
    TeleStack x = new TeleStack();
    x.packet(0, 1, 20);
    x.packet(0, 2, 2);
    x.frame(0, false);
    x.frame(0, true);
    Check.due("out of count", x.frame(0, false), 6);
    Check.due("packets()", x.packets(), 0);
    Check.due("the second's head", x.frame(0, false), 4);
    Check.due("an idle packet", x.frame(0, false), 2);
    Check.due("packets()", x.packets(), 1);
    gotLast(x, 0, 2, 2);
  }

  private static void outOfStepThoughTheCountFits() {
    TeleStack x = new TeleStack();
    x.packet(1, 1, 20);
    x.packet(1, 2, 20);
    x.packet(1, 3, 12);
    x.frame(1, true);
    Check.due("out of count", x.frame(1, false), 6);
    Check.due("in count, out of step", x.frame(1, false), 6);
    Check.due("in count, from the tag on", x.frame(1, false), 4);
    frames(x, 1, 4);
    Check.due("packets()", x.packets(), 1);
    gotLast(x, 1, 2, 20);
    frames(x, 1, 3);
    Check.due("packets()", x.packets(), 2);
    gotLast(x, 1, 3, 12);
  }

  private static void aBeginningOfEveryLength() {
    for (int cells = 0; cells <= 5; cells++) {
      TeleStack x = new TeleStack();
      // So many cells of the second packet stand in the first frame, which is followed by a loss.
      if (cells < 5) {
        x.packet(0, 30, 4 - cells);
        x.packet(0, 31, cells + 10);
      } else {
        x.frame(0, false);
        x.packet(0, 30, 5);
        x.packet(0, 31, 15);
        x.frame(0, false);
      }
      x.packet(0, 32, 16);
      x.frame(0, false);
      Check.due("packets(), " + cells + " cells begun", x.packets(), 1);
      x.frame(0, true);
      frames(x, 0, 5);
      Check.due("packets()", x.packets(), 2);
      gotLast(x, 0, 32, 16);
    }
  }

  // "READ: cells go behind the beginning; whenever that is a whole packet, the packet is GOT, if its
  // tag is not 0 and fewer than 40 were, and the beginning is nothing again."

  private static void aPacketWithoutDataIsWhole() {
    TeleStack x = new TeleStack();
    x.packet(0, 40, 2);
    x.packet(0, 41, 0);
    x.packet(0, 42, 4);
    x.frame(0, false);
    Check.due("packets() by its length", x.packets(), 2);
    gotLast(x, 0, 41, 0);
    TeleStack y = new TeleStack();
    y.packet(0, 40, 3);
    y.packet(0, 41, 0);
    y.frame(0, false);
    Check.due("packets() by its tag alone", y.packets(), 1);
    y.frame(0, false);
    Check.due("packets() by its length", y.packets(), 2);
    gotLast(y, 0, 41, 0);
  }

  private static void aPacketThatEndsWithItsFrame() {
    for (int length : new int[] {4, 10, 16}) {
      TeleStack x = new TeleStack();
      x.packet(0, 43, length);
      x.packet(0, 44, 4);
      int own = (length + 2) / 6;
      frames(x, 0, own - 1);
      Check.due("packets() before its last frame", x.packets(), 0);
      x.frame(0, false);
      Check.due("packets()", x.packets(), 1);
      x.frame(0, true);
      Check.due("packets() with the next lost", x.packets(), 1);
      gotLast(x, 0, 43, length);
    }
  }

  private static void threePacketsInOneFrame() {
    TeleStack x = new TeleStack();
    for (int tag = 45; tag <= 47; tag++) {
      x.packet(1, tag, 0);
    }
    x.frame(1, false);
    Check.due("packets()", x.packets(), 3);
    for (int k = 0; k < 3; k++) {
      Check.row("packet " + k, Scene.got(x, k), 1, 45 + k, 0, 0);
    }
  }

  private static void theFortiethPacketIsGot() {
    TeleStack x = Scene.packetsGot(39);
    x.packet(1, 77, 4);
    x.frame(1, false);
    Check.due("packets()", x.packets(), 40);
    gotLast(x, 1, 77, 4);
  }

  private static void theFortyFirstPacketIsNot() {
    for (int channel = 0; channel <= 1; channel++) {
      TeleStack x = Scene.packetsGot(40);
      x.packet(channel, 78, 4);
      x.frame(channel, false);
      Check.due("packets()", x.packets(), 40);
      gotLast(x, 1, 40, 4);
      Check.row("the first", Scene.got(x, 0), 0, 1, 4, sum(1, 4));
    }
    TeleStack y = Scene.packetsGot(38);
    for (int tag = 81; tag <= 83; tag++) {
      y.packet(0, tag, 0);
    }
    y.frame(0, false);
    Check.due("packets(), the last of three in a frame is not got", y.packets(), 40);
    gotLast(y, 0, 82, 0);
  }

  private static void idlePacketsLeaveRoomForForty() {
    TeleStack x = new TeleStack();
    for (int i = 0; i < 40; i++) {
      x.frame(i % 2, false);
      x.packet(i % 2, 1 + i, 4);
      x.frame(i % 2, false);
    }
    Check.due("packets()", x.packets(), 40);
    gotLast(x, 1, 40, 4);
  }

  // Promise 19: "3 the sum of its cells of data"

  private static void theLeastAndTheMostSum() {
    TeleStack x = new TeleStack();
    x.packet(0, 99, 0);
    x.packet(0, 99, 20);
    x.packet(0, 1, 1);
    frames(x, 0, 5);
    Check.row("none", Scene.got(x, 0), 0, 99, 0, 0);
    Check.row("the most", Scene.got(x, 1), 0, 99, 20, 14050);
    Check.row("one cell", Scene.got(x, 2), 0, 1, 1, 7);
  }
}
