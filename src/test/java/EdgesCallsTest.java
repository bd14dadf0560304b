/** The boundary cases that the promises tell themselves, beside the calls that are refused. */
final class EdgesCallsTest {
  private static final int[] ANY_INT = {0, 1, -1, Integer.MIN_VALUE, Integer.MAX_VALUE};

  public static void main(String[] args) {
    aNewObjectIsEmpty();
    theLastTuneHolds();
    tuneOutlivesEnds();
    theLeastAndTheMostNumber();
    numberLeavesTheRest();
    aCheckingTimerIsTheSpan();
    theOthersBeginWithoutATimer();
    aSetOfTheLeastAndTheMostNext();
    anUnlockHasNoNumber();
    beginForgetsReasonAndTries();
    endOfEveryMode();
    endKeepsWhatIsOnItsWay();
    anyIntIsACommand();
    theSlotIsFullUntilItIsSent();
    aHeldGroundTakesOneCommand();
    everyAnswerOfTick();
    theFirstAndTheLastFrameAreRaised();
    theFirstAndTheLastFrameAreDropped();
    theFirstAndTheLastWhatOfTheGround();
    theFirstAndTheLastWhatOfTheCraft();
    anotherWhatOfAFrameIsZero();
    whatAFrameLacksIsZero();
    thePacketsFromNoneToForty();
    theFirstAndTheLastPacket();
    anotherWhatOfAPacketIsZero();
    Check.close();
  }

  // Promise 1: "As told: IDLE, OPEN, no frames, reports or packets."

  private static void aNewObjectIsEmpty() {
    TeleStack x = new TeleStack();
    Check.row("ground", Scene.ground(x), 0, 0, 0, 0, 0, 0, 0, 0, 0);
    Check.row("craft", Scene.craft(x), 0, 0, 0, 0);
    Check.due("up frames", x.ground(9), 0);
    Check.due("reports", x.ground(10), 0);
    Check.due("cells of channel 0", x.craft(4), 0);
    Check.due("cells of channel 1", x.craft(5), 0);
    Check.due("packets()", x.packets(), 0);
    Check.due("tick()", x.tick(), -1);
  }

  // Promise 2: "Window, limit and span become so."

  private static void isTuned(TeleStack x, int window, int limit, int span) {
    x.begin(0);
    for (int i = 0; i < window; i++) {
      Scene.send(x, i);
    }
    x.command(9);
    Check.due("timer", x.ground(7), span);
    Check.due("tick() beyond the window", x.tick(), -1);
    x.end();
    x.begin(2);
    Scene.ticks(x, 1 + span * (limit - 1));
    Check.row("the last try", tail(x), 5, limit, span, 0);
    Scene.ticks(x, span);
    Check.row("beyond the limit", tail(x), 0, limit, 0, 5);
  }

  /** Mode, TRIES, timer, reason. */
  private static int[] tail(TeleStack x) {
    return new int[] {x.ground(0), x.ground(6), x.ground(7), x.ground(8)};
  }

  private static void theLastTuneHolds() {
    TeleStack x = new TeleStack();
    x.tune(4, 9, 20);
    x.tune(1, 1, 1);
    x.tune(2, 3, 4);
    isTuned(x, 2, 3, 4);
    x.tune(1, 1, 2);
    isTuned(x, 1, 1, 2);
    TeleStack y = new TeleStack();
    y.tune(4, 9, 20);
    isTuned(y, 4, 9, 20);
  }

  private static void tuneOutlivesEnds() {
    TeleStack x = new TeleStack();
    x.tune(2, 2, 2);
    for (int i = 0; i < 3; i++) {
      isTuned(x, 2, 2, 2);
    }
  }

  // Promise 3: "An IDLE ground's NEXT and OLDEST become n."

  private static void theLeastAndTheMostNumber() {
    TeleStack x = new TeleStack();
    for (int n : new int[] {15, 0, 15, 1, 14}) {
      x.number(n);
      Check.due("NEXT", x.ground(1), n);
      Check.due("OLDEST", x.ground(2), n);
    }
  }

  private static void numberLeavesTheRest() {
    TeleStack x = Scene.busy(0);
    String craft = Scene.text(Scene.craft(x));
    int frames = x.ground(9);
    x.number(15);
    Check.row("TRIES and reason stay", Scene.ground(x), 0, 15, 15, 0, 0, 0, 1, 0, 5);
    Check.due("the craft is as it was", craft.equals(Scene.text(Scene.craft(x))), true);
    Check.due("up frames", x.ground(9), frames);
  }

  // Promise 4: "how 0: ACTIVE; 1: CHECKING, with the timer SPAN; 2: STARTING, with an UNLOCK to be
  // sent; 3: STARTING, with a SET of NEXT to be sent. TRIES becomes 1, the reason 0."

  private static void aCheckingTimerIsTheSpan() {
    for (int span : new int[] {1, 5, 20}) {
      TeleStack x = new TeleStack();
      x.tune(1, 1, span);
      x.begin(1);
      Check.row("checking", Scene.ground(x), 4, 0, 0, 0, 0, 0, 1, span, 0);
    }
  }

  private static void theOthersBeginWithoutATimer() {
    int[] modes = {1, 4, 5, 5};
    for (int how : new int[] {0, 2, 3}) {
      TeleStack x = new TeleStack();
      x.begin(how);
      Check.row("begin(" + how + ")", Scene.ground(x), modes[how], 0, 0, 0, 0, 0, 1, 0, 0);
      Check.due("nothing is on its way yet", x.ground(9), 0);
    }
  }

  private static void aSetOfTheLeastAndTheMostNext() {
    for (int n : new int[] {0, 15}) {
      TeleStack x = new TeleStack();
      x.number(n);
      x.begin(3);
      Check.due("tick()", x.tick(), 2);
      Check.row("SET " + n, Scene.flight(x, 0), 2, n, 0);
      x.raise(0);
      Check.due("EXPECTED", x.craft(1), n);
    }
  }

  private static void anUnlockHasNoNumber() {
    TeleStack x = new TeleStack();
    x.number(15);
    x.begin(2);
    Check.due("tick()", x.tick(), 1);
    Check.row("UNLOCK", Scene.flight(x, 0), 1, 0, 0);
    x.raise(0);
    Check.due("EXPECTED", x.craft(1), 0);
  }

  private static void beginForgetsReasonAndTries() {
    for (int how = 0; how <= 3; how++) {
      TeleStack x = new TeleStack();
      x.tune(1, 9, 1);
      x.begin(2);
      Scene.ticks(x, 10);
      Check.row("after an alarm", tail(x), 0, 9, 0, 5);
      x.begin(how);
      Check.due("TRIES", x.ground(6), 1);
      Check.due("reason", x.ground(8), 0);
    }
  }

  // Promise 5: "The ground ENDS. .. (Reason, TRIES and NEXT stay, and so does what is on its way.)"

  private static void endOfEveryMode() {
    for (int mode = 1; mode <= 5; mode++) {
      TeleStack x = Scene.busy(mode);
      int next = x.ground(1);
      int tries = x.ground(6);
      x.end();
      Check.row("mode " + mode, Scene.ground(x), 0, next, next, 0, 0, 0, tries, 0, 0);
      Check.due("tick()", x.tick(), -1);
      x.begin(0);
      Check.due("tick(): list and slot are empty", x.tick(), -1);
    }
  }

  private static void endKeepsWhatIsOnItsWay() {
    for (int mode = 1; mode <= 5; mode++) {
      TeleStack x = Scene.busy(mode);
      int frames = x.ground(9);
      int reports = x.ground(10);
      String first = Scene.text(Scene.flight(x, 0));
      String last = Scene.text(Scene.flight(x, frames - 1));
      x.end();
      Check.due("up frames", x.ground(9), frames);
      Check.due("reports", x.ground(10), reports);
      Check.due("the first", first.equals(Scene.text(Scene.flight(x, 0))), true);
      Check.due("the last", last.equals(Scene.text(Scene.flight(x, frames - 1))), true);
    }
  }

  // Promise 6: "A command (any int) comes into the slot: true; false, changing nothing, when that is
  // not empty. (Also when it is HELD.)"

  private static void anyIntIsACommand() {
    for (int c : ANY_INT) {
      TeleStack x = new TeleStack();
      x.begin(0);
      Check.due("command(" + c + ")", x.command(c), true);
      Check.due("slot", x.ground(5), 1);
      Check.due("tick()", x.tick(), 0);
      Check.row("its frame", Scene.flight(x, 0), 0, 0, c);
      Scene.ticks(x, 5);
      Check.row("its frame again", Scene.flight(x, 1), 0, 0, c);
      x.raise(0);
      Check.due("take()", x.take(), c);
    }
  }

  private static void theSlotIsFullUntilItIsSent() {
    for (int c : ANY_INT) {
      TeleStack x = new TeleStack();
      x.begin(0);
      x.command(c);
      Check.due("another", x.command(5), false);
      Check.due("the same", x.command(c), false);
      x.tick();
      Check.row("the first was sent", Scene.flight(x, 0), 0, 0, c);
      Check.due("slot", x.ground(5), 0);
      Check.due("one more", x.command(5), true);
    }
  }

  private static void aHeldGroundTakesOneCommand() {
    TeleStack x = Scene.groundIn(Scene.HELD);
    Check.due("command", x.command(41), true);
    Check.due("a second", x.command(42), false);
    Check.due("tick() when held", x.tick(), -1);
    Check.due("slot", x.ground(5), 1);
    x.take();
    Scene.hear(x);
    Scene.ticks(x, 2);
    Check.row("the first was kept", Scene.flight(x, x.ground(9) - 1), 0, 1, 41);
  }

  // Promise 7: "the kind of the frame that the ground sent (0 .. 2), .. ; -1 when it sent none."

  private static void everyAnswerOfTick() {
    TeleStack x = new TeleStack();
    Check.due("idle", x.tick(), -1);
    x.begin(0);
    Check.due("nothing to send", x.tick(), -1);
    x.command(1);
    Check.due("COMMAND", x.tick(), 0);
    x.end();
    x.begin(2);
    Check.due("UNLOCK", x.tick(), 1);
    Check.due("it was sent", x.tick(), -1);
    x.end();
    x.begin(3);
    Check.due("SET", x.tick(), 2);
    Check.due("it was sent", x.tick(), -1);
    x.end();
    x.begin(1);
    Check.due("checking", x.tick(), -1);
  }

  // Promises 8 and 9: "Up frame k (0 the one that was sent first)"

  private static void theFirstAndTheLastFrameAreRaised() {
    for (int many : new int[] {1, 2, 20}) {
      TeleStack first = Scene.upFrames(many);
      first.raise(0);
      Check.row("number 0", Scene.craft(first), 0, 1, 0, 1);
      Check.due("take()", first.take(), 1000);
      Check.due("up frames", first.ground(9), many - 1);
      TeleStack last = Scene.upFrames(many);
      last.raise(many - 1);
      Check.due("up frames", last.ground(9), many - 1);
      // The twentieth has the number 3, the second 1: both are ahead. The only one is due.
      Check.due("AGAIN", last.craft(2), many == 1 ? 0 : 1);
      if (many > 1) {
        Check.due("the last of the rest", last.flight(many - 2, 2), 1000 + many - 2);
      }
    }
  }

  private static void theFirstAndTheLastFrameAreDropped() {
    for (int many : new int[] {1, 2, 20}) {
      for (int k : new int[] {0, many - 1}) {
        TeleStack x = Scene.upFrames(many);
        x.drop(k);
        Check.due("up frames", x.ground(9), many - 1);
        Check.row("the craft saw none", Scene.craft(x), 0, 0, 0, 0);
        for (int i = 0; i < many - 1; i++) {
          int from = i < k ? i : i + 1;
          Check.row("frame " + i, Scene.flight(x, i), 0, from % 16, 1000 + from);
        }
      }
    }
  }

  // Promises 15 and 16.

  private static void theFirstAndTheLastWhatOfTheGround() {
    TeleStack x = Scene.upFrames(20);
    for (int i = 0; i < 20; i++) {
      x.report();
    }
    x.begin(3);
    Check.due("ground(0)", x.ground(0), 5);
    Check.due("ground(9)", x.ground(9), 20);
    Check.due("ground(10)", x.ground(10), 20);
  }

  private static void theFirstAndTheLastWhatOfTheCraft() {
    TeleStack x = Scene.craftAt(15, Scene.LOCKED, true);
    for (int i = 0; i < 30; i++) {
      x.packet(1, 1, 0);
    }
    x.packet(0, 1, 20);
    Check.due("craft(0)", x.craft(0), 2);
    Check.due("craft(1)", x.craft(1), 15);
    Check.due("craft(4)", x.craft(4), 22);
    Check.due("craft(5)", x.craft(5), 60);
  }

  // Promise 17: "0 its kind, 1 its number (0 for UNLOCK), 2 its command (0 if it is none); 0 for
  // another what."

  private static void anotherWhatOfAFrameIsZero() {
    TeleStack x = Scene.busy(1);
    for (int k = 0; k < x.ground(9); k++) {
      for (int what : new int[] {-1, 3, 4, Integer.MIN_VALUE, Integer.MAX_VALUE}) {
        Check.due("flight(" + k + ", " + what + ")", x.flight(k, what), 0);
      }
    }
    TeleStack full = Scene.upFrames(20);
    Check.row("the twentieth", Scene.flight(full, 19), 0, 3, 1019);
    Check.due("another what of it", full.flight(19, 3), 0);
  }

  private static void whatAFrameLacksIsZero() {
    TeleStack x = new TeleStack();
    // The slot held a command before, and NEXT is not 0: neither comes into an UNLOCK.
    Scene.fly(x, 9, 99);
    Scene.flyUnlock(x);
    Scene.flySet(x, 11);
    Check.row("COMMAND", Scene.flight(x, 0), 0, 9, 99);
    Check.row("UNLOCK", Scene.flight(x, 1), 1, 0, 0);
    Check.row("SET", Scene.flight(x, 2), 2, 11, 0);
    x.drop(0);
    Check.row("UNLOCK in its place", Scene.flight(x, 0), 1, 0, 0);
  }

  // Promises 18 and 19: "0 the channel, 1 the tag, 2 the length, 3 the sum of its cells of data; 0
  // for another what."

  private static void thePacketsFromNoneToForty() {
    TeleStack x = new TeleStack();
    Check.due("packets()", x.packets(), 0);
    for (int i = 1; i <= 42; i++) {
      x.packet(i % 2, i, 4);
      Check.due("packets() before its frame", x.packets(), Math.min(40, i - 1));
      x.frame(i % 2, false);
      Check.due("packets()", x.packets(), Math.min(40, i));
    }
  }

  private static void theFirstAndTheLastPacket() {
    for (int many : new int[] {1, 2, 40}) {
      TeleStack x = Scene.packetsGot(many);
      Check.row("the first", Scene.got(x, 0), 0, 1, 4, 4 * 7 + 6);
      int[] last = Scene.got(x, many - 1);
      Check.row("the last", last, (many - 1) % 2, many, 4, 4 * 7 * many + 6);
    }
  }

  private static void anotherWhatOfAPacketIsZero() {
    TeleStack x = Scene.packetsGot(40);
    for (int k : new int[] {0, 39}) {
      for (int what : new int[] {-1, 4, 5, Integer.MIN_VALUE, Integer.MAX_VALUE}) {
        Check.due("got(" + k + ", " + what + ")", x.got(k, what), 0);
      }
    }
  }
}
