/** The boundary cases of 'Terms', THE SPACECRAFT: the queue, the distance d, the gate. */
final class EdgesSpacecraftTest {
  public static void main(String[] args) {
    theThirdCommandHasRoom();
    theFourthCommandHasNone();
    theQueueHasRoomAgain();
    expectedBehindFifteenIsZero();
    everyDistanceFromEveryExpected();
    theExpectedOneTurnsAgainOff();
    theExpectedOneWhenNotOpen();
    theLeastAndTheMostDistanceAhead();
    aheadWhenNotOpen();
    theLeastAndTheMostDistanceThatLocks();
    lockingFromEveryGate();
    theLeastAndTheMostDistanceBehind();
    unlockFromEveryGate();
    unlockWithAFullQueue();
    setFromEveryGate();
    setToTheLeastAndTheMostNumber();
    setWithAFullQueue();
    theLastCommandIsTaken();
    takingOpensAWaitingCraftOnly();
    Check.close();
  }

  // "a QUEUE of at most 3 commands"; "if the queue has room, its command goes behind the others,
  // EXPECTED grows by 1, AGAIN is off; if not, AGAIN is on, it is WAITING."

  private static void theThirdCommandHasRoom() {
    TeleStack x = new TeleStack();
    Scene.comeIn(x, 0, 81);
    Scene.comeIn(x, 1, 82);
    Check.row("two", Scene.craft(x), 0, 2, 0, 2);
    Scene.comeIn(x, 2, 83);
    Check.row("three", Scene.craft(x), 0, 3, 0, 3);
    Check.due("take()", x.take(), 81);
    Check.due("take()", x.take(), 82);
    Check.due("take()", x.take(), 83);
  }

  private static void theFourthCommandHasNone() {
    TeleStack x = new TeleStack();
    for (int i = 0; i < 4; i++) {
      Scene.comeIn(x, i, 81 + i);
    }
    Check.row("no fourth", Scene.craft(x), 1, 3, 1, 3);
    Check.due("it is not on its way any more", x.ground(9), 0);
    Check.due("take()", x.take(), 81);
    Check.due("take()", x.take(), 82);
    Check.due("take()", x.take(), 83);
    Check.row("all taken", Scene.craft(x), 0, 3, 1, 0);
  }

  private static void theQueueHasRoomAgain() {
    TeleStack x = Scene.craftAt(15, Scene.WAITING, true);
    Check.due("take()", x.take(), 901);
    Check.row("open", Scene.craft(x), 0, 15, 1, 2);
    Scene.comeIn(x, 15, 84);
    Check.row("full again", Scene.craft(x), 0, 0, 0, 3);
    Scene.comeIn(x, 0, 85);
    Check.row("waiting again", Scene.craft(x), 1, 0, 1, 3);
    Check.due("take()", x.take(), 902);
    Check.due("take()", x.take(), 903);
    Check.due("take()", x.take(), 84);
  }

  // "d = its number less EXPECTED (0 .. 15)"

  private static void expectedBehindFifteenIsZero() {
    TeleStack x = new TeleStack();
    Scene.comeSet(x, 14);
    Scene.comeIn(x, 14, 1);
    Check.due("EXPECTED", x.craft(1), 15);
    Scene.comeIn(x, 15, 2);
    Check.row("EXPECTED is 0", Scene.craft(x), 0, 0, 0, 2);
    Scene.comeIn(x, 0, 3);
    Check.row("EXPECTED is 1", Scene.craft(x), 0, 1, 0, 3);
  }

  private static void everyDistanceFromEveryExpected() {
    for (int expected = 0; expected <= 15; expected++) {
      for (int number = 0; number <= 15; number++) {
        TeleStack x = Scene.craftAt(expected, Scene.OPEN, false);
        Scene.comeIn(x, number, 86);
        int d = number < expected ? number + 16 - expected : number - expected;
        int[] due = {0, expected, 0, 0};
        if (d == 0) {
          due = new int[] {0, expected == 15 ? 0 : expected + 1, 0, 1};
        } else if (d < 5) {
          due[2] = 1;
        } else if (d < 11) {
          due[0] = 2;
        }
        Check.row("number " + number + ", EXPECTED " + expected, Scene.craft(x), due);
      }
    }
  }

  /** The craft after a COMMAND frame that is d ahead of the EXPECTED 13. */
  private static int[] after(int gate, boolean again, int d) {
    TeleStack x = Scene.craftAt(13, gate, again);
    Scene.comeIn(x, (13 + d) % 16, 87);
    return Scene.craft(x);
  }

  // "d = 0: if OPEN"

  private static void theExpectedOneTurnsAgainOff() {
    Check.row("AGAIN before", after(0, true, 0), 0, 14, 0, 1);
    Check.row("not AGAIN before", after(0, false, 0), 0, 14, 0, 1);
  }

  private static void theExpectedOneWhenNotOpen() {
    Check.row("waiting", after(1, true, 0), 1, 13, 1, 3);
    Check.row("locked, with room", after(2, false, 0), 2, 13, 0, 0);
    Check.row("locked, with room, AGAIN", after(2, true, 0), 2, 13, 1, 0);
  }

  // "d = 1 .. 4: if OPEN, AGAIN is on."

  private static void theLeastAndTheMostDistanceAhead() {
    for (int d : new int[] {1, 4}) {
      Check.row("d " + d, after(0, false, d), 0, 13, 1, 0);
      Check.row("d " + d + ", AGAIN before", after(0, true, d), 0, 13, 1, 0);
    }
  }

  private static void aheadWhenNotOpen() {
    for (int d : new int[] {1, 4}) {
      Check.row("waiting, d " + d, after(1, true, d), 1, 13, 1, 3);
      Check.row("locked, d " + d, after(2, false, d), 2, 13, 0, 0);
    }
  }

  // "d = 5 .. 10: it is LOCKED."

  private static void theLeastAndTheMostDistanceThatLocks() {
    for (int d : new int[] {5, 10}) {
      Check.row("d " + d, after(0, false, d), 2, 13, 0, 0);
      Check.row("d " + d + ", AGAIN stays", after(0, true, d), 2, 13, 1, 0);
    }
  }

  private static void lockingFromEveryGate() {
    for (int d : new int[] {5, 10}) {
      Check.row("waiting, d " + d, after(1, true, d), 2, 13, 1, 3);
      Check.row("locked, d " + d, after(2, false, d), 2, 13, 0, 0);
    }
  }

  // "All others change nothing."

  private static void theLeastAndTheMostDistanceBehind() {
    for (int d : new int[] {11, 15}) {
      Check.row("open, d " + d, after(0, false, d), 0, 13, 0, 0);
      Check.row("open, AGAIN, d " + d, after(0, true, d), 0, 13, 1, 0);
      Check.row("waiting, d " + d, after(1, true, d), 1, 13, 1, 3);
      Check.row("locked, d " + d, after(2, false, d), 2, 13, 0, 0);
    }
  }

  // "UNLOCK: it is OPEN, AGAIN is off."

  private static void unlockFromEveryGate() {
    for (int gate = 0; gate <= 2; gate++) {
      for (int again = gate == 1 ? 1 : 0; again <= 1; again++) {
        TeleStack x = Scene.craftAt(12, gate, again == 1);
        Scene.comeUnlock(x);
        Check.row("gate " + gate, Scene.craft(x), 0, 12, 0, gate == 1 ? 3 : 0);
      }
    }
  }

  private static void unlockWithAFullQueue() {
    TeleStack x = Scene.craftAt(12, Scene.WAITING, true);
    Scene.comeIn(x, 1, 88);
    Check.row("locked, full", Scene.craft(x), 2, 12, 1, 3);
    Scene.comeUnlock(x);
    Check.row("open, full", Scene.craft(x), 0, 12, 0, 3);
    Scene.comeIn(x, 12, 89);
    Check.row("waiting", Scene.craft(x), 1, 12, 1, 3);
  }

  // "SET: if it is not LOCKED: EXPECTED becomes its number, it is OPEN, AGAIN is off."

  private static void setFromEveryGate() {
    for (int gate = 0; gate <= 2; gate++) {
      for (int again = gate == 1 ? 1 : 0; again <= 1; again++) {
        TeleStack x = Scene.craftAt(12, gate, again == 1);
        Scene.comeSet(x, 3);
        if (gate == 2) {
          Check.row("locked", Scene.craft(x), 2, 12, again, 0);
        } else {
          Check.row("gate " + gate, Scene.craft(x), 0, 3, 0, gate == 1 ? 3 : 0);
        }
        Check.due("it is not on its way any more", x.ground(9), 0);
      }
    }
  }

  private static void setToTheLeastAndTheMostNumber() {
    for (int n : new int[] {0, 15, 12}) {
      TeleStack x = Scene.craftAt(12, Scene.OPEN, true);
      Scene.comeSet(x, n);
      Check.row("SET " + n, Scene.craft(x), 0, n, 0, 0);
    }
  }

  private static void setWithAFullQueue() {
    TeleStack x = Scene.craftAt(12, Scene.WAITING, true);
    Scene.comeSet(x, 5);
    Check.row("open, full", Scene.craft(x), 0, 5, 0, 3);
    Scene.comeIn(x, 5, 89);
    Check.row("waiting", Scene.craft(x), 1, 5, 1, 3);
    Check.due("take()", x.take(), 901);
    Check.due("take()", x.take(), 902);
    Check.due("take()", x.take(), 903);
  }

  // Promise 10: "Takes the first command out of the queue; if the spacecraft was WAITING, it is
  // OPEN then."

  private static void theLastCommandIsTaken() {
    for (int c : new int[] {0, -1, Integer.MIN_VALUE, Integer.MAX_VALUE}) {
      TeleStack x = new TeleStack();
      Scene.comeIn(x, 0, c);
      Check.due("take()", x.take(), c);
      Check.row("the queue is empty", Scene.craft(x), 0, 1, 0, 0);
    }
  }

  private static void takingOpensAWaitingCraftOnly() {
    TeleStack waiting = Scene.craftAt(4, Scene.WAITING, true);
    waiting.take();
    Check.row("waiting", Scene.craft(waiting), 0, 4, 1, 2);
    TeleStack locked = Scene.craftAt(4, Scene.WAITING, true);
    Scene.comeIn(locked, 14, 1);
    Check.due("take()", locked.take(), 901);
    Check.row("locked when it was waiting", Scene.craft(locked), 2, 4, 1, 2);
    Check.due("take()", locked.take(), 902);
    Check.due("take()", locked.take(), 903);
    Check.row("locked and empty", Scene.craft(locked), 2, 4, 1, 0);
    TeleStack open = new TeleStack();
    Scene.comeIn(open, 0, 1);
    open.take();
    Check.row("open", Scene.craft(open), 0, 1, 0, 0);
  }
}
