import java.util.NoSuchElementException;
import java.util.function.Consumer;
import java.util.function.Supplier;

/**
 * Every call that the document refuses, promise by promise: it throws just what is told, and "a
 * call that throws changes nothing", neither what is told at once nor what comes later. The same
 * for the calls that answer false, "changing nothing".
 */
final class RefusedCallsTest {
  private static final int LEAST = Integer.MIN_VALUE;
  private static final int MOST = Integer.MAX_VALUE;

  public static void main(String[] args) {
    tuneOfAGroundThatIsNotIdle();
    tuneWithAWindowThatIsNone();
    tuneWithALimitThatIsNone();
    tuneWithASpanThatIsNone();
    tuneWithSeveralWrong();
    numberOfAGroundThatIsNotIdle();
    numberThatIsNone();
    beginOfAGroundThatIsNotIdle();
    beginWithAHowThatIsNone();
    endOfAnIdleGround();
    commandToAGroundThatTakesNone();
    commandWhenTheSlotIsNotEmpty();
    raiseOfNoFrame();
    dropOfNoFrame();
    takeOutOfAnEmptyQueue();
    reportWhenThereAreTwenty();
    answerOfNoReport();
    packetOnNoChannel();
    packetWithATagThatIsNone();
    packetWithALengthThatIsNone();
    packetThatHasNoRoom();
    frameOfNoChannel();
    groundOfAnotherWhat();
    craftOfAnotherWhat();
    flightOfNoFrame();
    gotOfNoPacket();
    askingChangesNothing();
    Check.close();
  }

  private static void wrongState(String what, int mode, Consumer<TeleStack> call) {
    String told = what + " in mode " + mode;
    Twins.refused(told, () -> Scene.busy(mode), IllegalStateException.class, call);
  }

  private static void wrongArgument(String what, Consumer<TeleStack> call) {
    Twins.refused(what, () -> Scene.busy(0), IllegalArgumentException.class, call);
  }

  private static void wrongPlace(String what, Supplier<TeleStack> scene, Consumer<TeleStack> call) {
    Twins.refused(what, scene, IndexOutOfBoundsException.class, call);
  }

  private static void noElement(String what, Supplier<TeleStack> scene, Consumer<TeleStack> call) {
    Twins.refused(what, scene, NoSuchElementException.class, call);
  }

  // Promise 2: "Throws IllegalStateException when the ground is not IDLE, then
  // IllegalArgumentException when one is not as said."

  private static void tuneOfAGroundThatIsNotIdle() {
    for (int mode = 1; mode <= 5; mode++) {
      wrongState("tune(1, 1, 1)", mode, x -> x.tune(1, 1, 1));
      wrongState("tune(4, 9, 20)", mode, x -> x.tune(4, 9, 20));
      wrongState("tune(0, 1, 1)", mode, x -> x.tune(0, 1, 1));
      wrongState("tune(1, 10, 1)", mode, x -> x.tune(1, 10, 1));
      wrongState("tune(1, 1, 21)", mode, x -> x.tune(1, 1, 21));
    }
  }

  private static void tuneWithAWindowThatIsNone() {
    for (int w : new int[] {0, 5, -1, LEAST, MOST}) {
      wrongArgument("tune, window " + w, x -> x.tune(w, 1, 1));
    }
  }

  private static void tuneWithALimitThatIsNone() {
    for (int l : new int[] {0, 10, -1, LEAST, MOST}) {
      wrongArgument("tune, limit " + l, x -> x.tune(1, l, 1));
    }
  }

  private static void tuneWithASpanThatIsNone() {
    for (int s : new int[] {0, 21, -1, LEAST, MOST}) {
      wrongArgument("tune, span " + s, x -> x.tune(1, 1, s));
    }
  }

  private static void tuneWithSeveralWrong() {
    wrongArgument("tune(0, 0, 0)", x -> x.tune(0, 0, 0));
    wrongArgument("tune(5, 10, 21)", x -> x.tune(5, 10, 21));
    wrongArgument("tune(0, 10, 1)", x -> x.tune(0, 10, 1));
    wrongArgument("tune(5, 1, 0)", x -> x.tune(5, 1, 0));
    wrongArgument("tune(1, 0, 21)", x -> x.tune(1, 0, 21));
  }

  // Promise 3: "Throws IllegalStateException when it is not IDLE, then IllegalArgumentException
  // when n is not 0 .. 15."

  private static void numberOfAGroundThatIsNotIdle() {
    for (int mode = 1; mode <= 5; mode++) {
      for (int n : new int[] {0, 7, 15, -1, 16}) {
        wrongState("number(" + n + ")", mode, x -> x.number(n));
      }
    }
  }

  private static void numberThatIsNone() {
    for (int n : new int[] {-1, 16, 17, LEAST, MOST}) {
      wrongArgument("number(" + n + ")", x -> x.number(n));
    }
  }

  // Promise 4: "Throws IllegalStateException when it is not IDLE, then IllegalArgumentException
  // when how is not 0 .. 3."

  private static void beginOfAGroundThatIsNotIdle() {
    for (int mode = 1; mode <= 5; mode++) {
      for (int how = -1; how <= 4; how++) {
        int h = how;
        wrongState("begin(" + h + ")", mode, x -> x.begin(h));
      }
    }
    for (int how = -1; how <= 4; how++) {
      int h = how;
      Supplier<TeleStack> sent = RefusedCallsTest::startFrameSent;
      Twins.refused("begin when started", sent, IllegalStateException.class, x -> x.begin(h));
    }
  }

  private static TeleStack startFrameSent() {
    TeleStack x = Scene.busy(5);
    Check.due("tick()", x.tick(), 2);
    return x;
  }

  private static void beginWithAHowThatIsNone() {
    for (int how : new int[] {-1, 4, 5, LEAST, MOST}) {
      // A reason of 5 and the TRIES of before would be seen to change.
      wrongArgument("begin(" + how + ")", x -> x.begin(how));
    }
  }

  // Promise 5: "Throws IllegalStateException when it is IDLE."

  private static void endOfAnIdleGround() {
    wrongState("end() after an alarm", 0, x -> x.end());
    Twins.refused("end() of a new one", TeleStack::new, IllegalStateException.class, x -> x.end());
    for (int mode = 1; mode <= 5; mode++) {
      int m = mode;
      Supplier<TeleStack> ended = () -> ended(m);
      Twins.refused("end() after end()", ended, IllegalStateException.class, x -> x.end());
    }
  }

  private static TeleStack ended(int mode) {
    TeleStack x = Scene.busy(mode);
    x.end();
    return x;
  }

  // Promise 6: "Throws IllegalStateException when the ground is not ACTIVE, RESENDING or HELD."

  private static void commandToAGroundThatTakesNone() {
    for (int mode : new int[] {0, 4, 5}) {
      for (int c : new int[] {0, 1, LEAST, MOST}) {
        wrongState("command(" + c + ")", mode, x -> x.command(c));
      }
    }
  }

  // Promise 6: "false, changing nothing, when that is not empty. (Also when it is HELD.)"

  private static void commandWhenTheSlotIsNotEmpty() {
    for (int mode = 1; mode <= 3; mode++) {
      int m = mode;
      Twins.answersFalse("a second command", () -> Scene.busy(m), x -> x.command(777));
    }
  }

  // Promises 8 and 9: "Throws IndexOutOfBoundsException when there is none."

  private static void raiseOfNoFrame() {
    for (int many : new int[] {0, 1, 2, 19, 20}) {
      for (int k : new int[] {-1, many, many + 1, LEAST, MOST}) {
        wrongPlace("raise(" + k + ") of " + many, () -> Scene.upFrames(many), x -> x.raise(k));
      }
    }
    wrongPlace("raise of what was raised", RefusedCallsTest::oneRaised, x -> x.raise(0));
  }

  private static void dropOfNoFrame() {
    for (int many : new int[] {0, 1, 2, 19, 20}) {
      for (int k : new int[] {-1, many, many + 1, LEAST, MOST}) {
        wrongPlace("drop(" + k + ") of " + many, () -> Scene.upFrames(many), x -> x.drop(k));
      }
    }
    wrongPlace("drop of what was raised", RefusedCallsTest::oneRaised, x -> x.drop(0));
  }

  private static TeleStack oneRaised() {
    TeleStack x = Scene.upFrames(1);
    x.raise(0);
    return x;
  }

  // Promise 10: "Throws NoSuchElementException when the queue is empty."

  private static void takeOutOfAnEmptyQueue() {
    noElement("take() of a new one", TeleStack::new, x -> x.take());
    noElement("take() of one that was taken", RefusedCallsTest::allTaken, x -> x.take());
    noElement("take(), AGAIN", () -> Scene.craftAt(3, Scene.OPEN, true), x -> x.take());
    noElement("take(), LOCKED", () -> Scene.craftAt(3, Scene.LOCKED, true), x -> x.take());
  }

  private static TeleStack allTaken() {
    TeleStack x = Scene.craftAt(7, Scene.WAITING, true);
    for (int i = 0; i < 3; i++) {
      x.take();
    }
    return x;
  }

  // Promise 11: "false when there are 20."

  private static void reportWhenThereAreTwenty() {
    Twins.answersFalse("a twenty-first report", () -> Scene.reports(20), x -> x.report());
    Twins.answersFalse("one that tells more", RefusedCallsTest::lockedBehindTwenty, x -> x.report());
  }

  private static TeleStack lockedBehindTwenty() {
    TeleStack x = Scene.reports(20);
    Scene.comeIn(x, 0, 1);
    Scene.comeIn(x, 9, 1);
    Check.row("the craft", Scene.craft(x), 2, 1, 0, 1);
    return x;
  }

  // Promise 12: "Throws IndexOutOfBoundsException when there is none."

  private static void answerOfNoReport() {
    for (int many : new int[] {0, 1, 2, 19, 20}) {
      for (int k : new int[] {-1, many, many + 1, LEAST, MOST}) {
        String what = "answer(" + k + ") of " + many;
        wrongPlace(what, () -> Scene.reports(many), x -> x.answer(k, false));
        wrongPlace(what + ", lost", () -> Scene.reports(many), x -> x.answer(k, true));
      }
    }
    for (int mode = 0; mode <= 5; mode++) {
      int m = mode;
      int many = Scene.busy(m).ground(10);
      wrongPlace("answer in mode " + m, () -> Scene.busy(m), x -> x.answer(many, false));
      wrongPlace("answer in mode " + m, () -> Scene.busy(m), x -> x.answer(-1, false));
    }
  }

  // Promise 13: "Throws IllegalArgumentException when channel, tag or length is not as said."

  private static void packetOnNoChannel() {
    for (int c : new int[] {-1, 2, 3, LEAST, MOST}) {
      wrongArgument("packet, channel " + c, x -> x.packet(c, 1, 0));
      wrongArgument("packet, channel " + c + " and more", x -> x.packet(c, 0, 21));
    }
  }

  private static void packetWithATagThatIsNone() {
    for (int t : new int[] {0, 100, -1, LEAST, MOST}) {
      wrongArgument("packet, tag " + t, x -> x.packet(0, t, 0));
      wrongArgument("packet, tag " + t, x -> x.packet(1, t, 20));
      refusedByAFullStream("packet, tag " + t, x -> x.packet(0, t, 20));
    }
  }

  private static void packetWithALengthThatIsNone() {
    for (int l : new int[] {-1, 21, 22, -2, -3, LEAST, MOST}) {
      wrongArgument("packet, length " + l, x -> x.packet(0, 1, l));
      wrongArgument("packet, length " + l, x -> x.packet(1, 99, l));
      refusedByAFullStream("packet, length " + l, x -> x.packet(0, 1, l));
    }
  }

  private static void refusedByAFullStream(String what, Consumer<TeleStack> call) {
    String told = what + ", full stream";
    Twins.refused(told, () -> Scene.cells(0, 60), IllegalArgumentException.class, call);
  }

  // Promise 13: "false, changing nothing, when that would have more than 60 cells."

  private static void packetThatHasNoRoom() {
    for (int channel = 0; channel <= 1; channel++) {
      int c = channel;
      for (int cells = 39; cells <= 60; cells++) {
        int many = cells;
        int tooLong = Math.max(0, 59 - many);
        Twins.answersFalse(
            "packet behind " + many, () -> Scene.cells(c, many), x -> x.packet(c, 5, tooLong));
        Twins.answersFalse(
            "packet of 20 behind " + many, () -> Scene.cells(c, many), x -> x.packet(c, 5, 20));
      }
    }
  }

  // Promise 14: "Throws IllegalArgumentException when there is no such channel."

  private static void frameOfNoChannel() {
    for (int c : new int[] {-1, 2, 3, LEAST, MOST}) {
      wrongArgument("frame, channel " + c, x -> x.frame(c, false));
      wrongArgument("lost frame, channel " + c, x -> x.frame(c, true));
    }
  }

  // Promises 15 and 16: "Throws IndexOutOfBoundsException for another what."

  private static void groundOfAnotherWhat() {
    for (int mode = 0; mode <= 5; mode++) {
      int m = mode;
      for (int what : new int[] {-1, 11, 12, LEAST, MOST}) {
        wrongPlace("ground(" + what + ")", () -> Scene.busy(m), x -> x.ground(what));
      }
    }
  }

  private static void craftOfAnotherWhat() {
    for (int what : new int[] {-1, 6, 7, LEAST, MOST}) {
      wrongPlace("craft(" + what + ")", () -> Scene.busy(1), x -> x.craft(what));
      wrongPlace("craft(" + what + ")", () -> Scene.busy(3), x -> x.craft(what));
      wrongPlace("craft(" + what + ") of a new one", TeleStack::new, x -> x.craft(what));
    }
  }

  // Promise 17: "Throws IndexOutOfBoundsException when there is no such frame."

  private static void flightOfNoFrame() {
    for (int many : new int[] {0, 1, 2, 19, 20}) {
      for (int k : new int[] {-1, many, many + 1, LEAST, MOST}) {
        for (int what : new int[] {-1, 0, 1, 2, 3}) {
          String told = "flight(" + k + ", " + what + ") of " + many;
          wrongPlace(told, () -> Scene.upFrames(many), x -> x.flight(k, what));
        }
      }
    }
    wrongPlace("flight of what was raised", RefusedCallsTest::oneRaised, x -> x.flight(0, 0));
  }

  // Promise 19: "Throws NoSuchElementException when there is none."

  private static void gotOfNoPacket() {
    for (int many : new int[] {0, 1, 2, 39, 40}) {
      for (int k : new int[] {-1, many, many + 1, LEAST, MOST}) {
        for (int what : new int[] {-1, 0, 3, 4}) {
          String told = "got(" + k + ", " + what + ") of " + many;
          noElement(told, () -> Scene.packetsGot(many), x -> x.got(k, what));
        }
      }
    }
    noElement("got of an idle packet", RefusedCallsTest::idleFrame, x -> x.got(0, 0));
  }

  private static TeleStack idleFrame() {
    TeleStack x = new TeleStack();
    x.frame(0, false);
    return x;
  }

  private static void askingChangesNothing() {
    for (int mode = 0; mode <= 5; mode++) {
      int m = mode;
      Twins.alike("asking in mode " + m, () -> Scene.busy(m), RefusedCallsTest::askAll);
    }
  }

  private static void askAll(TeleStack x) {
    Scene.allOf(x);
    Check.due("flight of another what", x.flight(0, 9), 0);
    Check.due("got of another what", x.got(0, 9), 0);
  }
}
