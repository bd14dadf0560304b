/** The boundary cases of 'Terms', UP: the numbers, the alarms, RESEND, the up frames, a TICK. */
final class EdgesUpTest {
  public static void main(String[] args) {
    theNumberBehindFifteenIsZero();
    aWholeRoundOfNumbers();
    aNewWindowIsThree();
    aNewLimitIsFour();
    aNewSpanIsFive();
    theLeastAndTheMostWindow();
    theLeastAndTheMostLimit();
    theLeastAndTheMostSpan();
    anAlarmEndsTheGround();
    whatIsOnItsWayOutlivesAnAlarm();
    aGroundBeginsAfterEveryAlarm();
    resendJustBelowTheLimit();
    resendAtTheLimit();
    theTwentiethFrameIsOnItsWay();
    theTwentyFirstCommandIsLost();
    theTwentyFirstFrameSentAgainIsLost();
    theTwentyFirstUnlockIsLost();
    theTwentyFirstSetIsLost();
    thereIsRoomBehindNineteen();
    aTimerOfZeroDoesNotRun();
    aTimerOfOneRunsOut();
    aTimerOfTwoDoesNotRunOut();
    anActiveTimerBelowTheLimit();
    anActiveTimerAtTheLimit();
    aResendingTimerBelowAndAtTheLimit();
    aHeldTimerBelowTheLimit();
    aHeldTimerAtTheLimit();
    aCheckingTimerBelowTheLimit();
    aStartingTimerBelowAndAtTheLimit();
    aTickSendsAtMostOneFrame();
    aTickOfTheOtherModesSendsNone();
    theSlotIsEmpty();
    theWindowIsFull();
    theLastPlaceOfTheWindow();
    aMarkedFrameGoesThroughAFullWindow();
    theOnlyFrameBeginsTheTriesAnew();
    Check.close();
  }

  // "The numbers of frames count modulo 16."

  private static void theNumberBehindFifteenIsZero() {
    TeleStack x = new TeleStack();
    x.number(15);
    x.begin(0);
    Scene.send(x, 1);
    Check.row("the frame 15", Scene.flight(x, 0), 0, 15, 1);
    Check.row("NEXT is 0", Scene.ground(x), 1, 0, 15, 1, 0, 0, 1, 5, 0);
    Scene.send(x, 2);
    Check.row("the frame 0", Scene.flight(x, 1), 0, 0, 2);
    Check.row("NEXT is 1", Scene.ground(x), 1, 1, 15, 2, 0, 0, 1, 5, 0);
  }

  private static void aWholeRoundOfNumbers() {
    TeleStack x = new TeleStack();
    x.begin(0);
    for (int i = 0; i < 34; i++) {
      Scene.send(x, 100 + i);
      Check.due("number of frame " + i, x.flight(0, 1), i % 16);
      x.raise(0);
      Check.due("take() " + i, x.take(), 100 + i);
      Scene.hear(x);
      Check.due("NEXT", x.ground(1), (i + 1) % 16);
      Check.due("OLDEST", x.ground(2), (i + 1) % 16);
      Check.due("unacknowledged", x.ground(3), 0);
    }
  }

  // "a WINDOW 1 .. 4, a LIMIT 1 .. 9 and a SPAN 1 .. 20, at first 3, 4 and 5."

  private static void aNewWindowIsThree() {
    TeleStack x = new TeleStack();
    x.begin(0);
    Scene.send(x, 1, 2, 3);
    x.command(4);
    Check.due("tick() with three", x.tick(), -1);
    Check.due("unacknowledged", x.ground(3), 3);
  }

  private static void aNewLimitIsFour() {
    TeleStack x = new TeleStack();
    x.begin(2);
    Scene.ticks(x, 16);
    Check.row("a fourth try", Scene.ground(x), 5, 0, 0, 0, 0, 0, 4, 5, 0);
    Scene.ticks(x, 5);
    Check.row("no fifth", Scene.ground(x), 0, 0, 0, 0, 0, 0, 4, 0, 5);
  }

  private static void aNewSpanIsFive() {
    TeleStack x = new TeleStack();
    x.begin(1);
    Check.due("timer", x.ground(7), 5);
    Scene.ticks(x, 4);
    Check.due("mode after 4 ticks", x.ground(0), 4);
    x.tick();
    Check.due("mode after 5 ticks", x.ground(0), 0);
  }

  private static void theLeastAndTheMostWindow() {
    for (int window : new int[] {1, 4}) {
      TeleStack x = new TeleStack();
      x.tune(window, 9, 20);
      x.begin(0);
      for (int i = 0; i < window; i++) {
        Scene.send(x, i);
      }
      x.command(9);
      Check.due("tick() beyond a window of " + window, x.tick(), -1);
      Check.due("unacknowledged", x.ground(3), window);
      Check.due("slot", x.ground(5), 1);
    }
  }

  private static void theLeastAndTheMostLimit() {
    for (int limit : new int[] {1, 9}) {
      TeleStack x = new TeleStack();
      x.tune(1, limit, 1);
      x.begin(3);
      for (int i = 1; i <= limit; i++) {
        Check.due("tick() " + i + " of " + limit, x.tick(), 2);
        Check.due("TRIES", x.ground(6), i);
      }
      Check.due("tick() beyond a limit of " + limit, x.tick(), -1);
      Check.row("alarm 5", Scene.ground(x), 0, 0, 0, 0, 0, 0, limit, 0, 5);
      Check.due("frames that were sent", x.ground(9), limit);
    }
  }

  private static void theLeastAndTheMostSpan() {
    for (int span : new int[] {1, 20}) {
      TeleStack x = new TeleStack();
      x.tune(1, 2, span);
      x.begin(0);
      Scene.send(x, 1);
      Check.due("timer", x.ground(7), span);
      for (int i = 1; i < span; i++) {
        Check.due("tick() " + i + " of " + span, x.tick(), -1);
        Check.due("timer", x.ground(7), span - i);
      }
      Check.due("tick() that ends a span of " + span, x.tick(), 0);
      Check.row("sent again", Scene.ground(x), 1, 1, 0, 1, 0, 0, 2, span, 0);
    }
  }

  // "To ALARM with a reason: the reason becomes so, and the ground ENDS: the mode is IDLE, the list
  // and the slot are empty, OLDEST is NEXT, the timer 0."

  /** Two frames (15 and 0) unacknowledged, a full slot, the timer running; TRIES 1 of 2. */
  private static TeleStack fullGround(int expected, int gate, boolean again) {
    TeleStack x = Scene.craftAt(expected, gate, again);
    x.tune(2, 2, 3);
    x.number(15);
    x.begin(0);
    Scene.send(x, 61, 62);
    x.command(63);
    Check.row("before the alarm", Scene.ground(x), 1, 1, 15, 2, 0, 1, 1, 3, 0);
    return x;
  }

  private static TeleStack alarmed(int reason) {
    TeleStack x;
    switch (reason) {
      case 1:
        x = fullGround(15, Scene.OPEN, true);
        Scene.ticks(x, 3);
        break;
      case 2:
        x = fullGround(15, Scene.LOCKED, false);
        break;
      case 3:
        x = fullGround(1, Scene.OPEN, true);
        break;
      case 4:
        x = fullGround(2, Scene.OPEN, false);
        break;
      default:
        x = fullGround(15, Scene.OPEN, false);
        Scene.ticks(x, 7);
        break;
    }
    if (reason < 5) {
      Scene.hear(x);
    }
    return x;
  }

  private static void anAlarmEndsTheGround() {
    int[] tries = {0, 2, 1, 1, 1, 2};
    for (int reason = 1; reason <= 5; reason++) {
      TeleStack x = alarmed(reason);
      int[] due = {0, 1, 1, 0, 0, 0, tries[reason], 0, reason};
      Check.row("alarm " + reason, Scene.ground(x), due);
      Check.refused("command", x, IllegalStateException.class, () -> x.command(1));
      Check.due("tick() of an ended ground", x.tick(), -1);
      Check.row("and nothing follows", Scene.ground(x), due);
    }
  }

  private static void whatIsOnItsWayOutlivesAnAlarm() {
    for (int reason = 1; reason <= 5; reason++) {
      TeleStack x = alarmed(reason);
      Check.row("the first frame", Scene.flight(x, 0), 0, 15, 61);
      Check.row("the second frame", Scene.flight(x, 1), 0, 0, 62);
    }
    TeleStack x = fullGround(2, Scene.OPEN, false);
    x.report();
    x.report();
    x.answer(1, false);
    Check.due("reason", x.ground(8), 4);
    Check.due("reports", x.ground(10), 1);
  }

  private static void aGroundBeginsAfterEveryAlarm() {
    for (int reason = 1; reason <= 5; reason++) {
      TeleStack x = alarmed(reason);
      x.begin(0);
      Check.row("begun after " + reason, Scene.ground(x), 1, 1, 1, 0, 0, 0, 1, 0, 0);
      Check.due("tick(): list and slot are empty", x.tick(), -1);
      Scene.send(x, 71);
      Check.row("the next frame", Scene.flight(x, x.ground(9) - 1), 0, 1, 71);
      Check.row("it is the only one", Scene.ground(x), 1, 2, 1, 1, 0, 0, 1, 3, 0);
      Scene.send(x, 72);
      Check.row("no mark is left", Scene.ground(x), 1, 3, 1, 2, 0, 0, 1, 3, 0);
      Check.due("tick() with nothing marked", x.tick(), -1);
    }
  }

  // "To RESEND: if TRIES is not less than LIMIT, ALARM 1; otherwise TRIES grows by 1, all
  // unacknowledged frames are marked, and the mode is RESENDING."

  /** An ACTIVE ground with two frames that were sent so many times, before an AGAIN report. */
  private static TeleStack tried(int tries, int limit) {
    TeleStack x = Scene.craftAt(0, Scene.OPEN, true);
    x.tune(2, limit, 2);
    x.begin(0);
    Scene.send(x, 1, 2);
    Scene.ticks(x, 3 * (tries - 1));
    Check.row("tried", Scene.ground(x), 1, 2, 0, 2, 0, 0, tries, 2, 0);
    return x;
  }

  private static void resendJustBelowTheLimit() {
    for (int limit = 2; limit <= 9; limit++) {
      TeleStack x = tried(limit - 1, limit);
      Scene.hear(x);
      Check.row("limit " + limit, Scene.ground(x), 2, 2, 0, 2, 2, 0, limit, 2, 0);
    }
  }

  private static void resendAtTheLimit() {
    for (int limit = 1; limit <= 9; limit++) {
      TeleStack x = tried(limit, limit);
      Scene.hear(x);
      Check.row("limit " + limit, Scene.ground(x), 0, 2, 2, 0, 0, 0, limit, 0, 1);
    }
  }

  // "UP FRAMES on their way are in a list, at most 20 (one that is sent when there are 20 is lost)"
  // and promise 7: "also if it was lost for want of room".

  private static void twentyAreAsTheyWere(TeleStack x) {
    Check.due("up frames", x.ground(9), 20);
    for (int k = 0; k < 20; k++) {
      Check.row("up frame " + k, Scene.flight(x, k), 0, k % 16, 1000 + k);
    }
  }

  private static void theTwentiethFrameIsOnItsWay() {
    TeleStack x = Scene.upFrames(19);
    Check.due("up frames", x.ground(9), 19);
    x.begin(0);
    Scene.send(x, 1019);
    twentyAreAsTheyWere(x);
  }

  private static void theTwentyFirstCommandIsLost() {
    TeleStack x = Scene.upFrames(20);
    x.number(8);
    x.begin(0);
    x.command(5);
    Check.due("tick()", x.tick(), 0);
    twentyAreAsTheyWere(x);
    Check.row("it is unacknowledged", Scene.ground(x), 1, 9, 8, 1, 0, 0, 1, 20, 0);
    x.drop(0);
    Scene.ticks(x, 19);
    Check.due("tick() that sends it again", x.tick(), 0);
    Check.row("there is room now", Scene.flight(x, 19), 0, 8, 5);
  }

  private static void theTwentyFirstFrameSentAgainIsLost() {
    TeleStack x = Scene.upFrames(19);
    x.tune(1, 3, 1);
    x.begin(0);
    Scene.send(x, 1019);
    Check.due("tick() that sends it again", x.tick(), 0);
    twentyAreAsTheyWere(x);
    Check.row("it is marked no more", Scene.ground(x), 1, 4, 3, 1, 0, 0, 2, 1, 0);
  }

  private static void theTwentyFirstUnlockIsLost() {
    TeleStack x = Scene.upFrames(20);
    x.begin(2);
    Check.due("tick()", x.tick(), 1);
    twentyAreAsTheyWere(x);
    Check.row("the timer runs", Scene.ground(x), 5, 4, 4, 0, 0, 0, 1, 20, 0);
    Check.due("tick(): it is not to be sent any more", x.tick(), -1);
  }

  private static void theTwentyFirstSetIsLost() {
    TeleStack x = Scene.upFrames(20);
    x.tune(1, 2, 2);
    x.begin(3);
    Check.due("tick()", x.tick(), 2);
    twentyAreAsTheyWere(x);
    Check.due("tick(): it is not to be sent any more", x.tick(), -1);
    x.drop(19);
    Check.due("tick() that sends it again", x.tick(), 2);
    Check.row("there is room now", Scene.flight(x, 19), 2, 4, 0);
  }

  private static void thereIsRoomBehindNineteen() {
    for (int how = 0; how <= 1; how++) {
      for (int k : new int[] {0, 10, 19}) {
        TeleStack x = Scene.upFrames(20);
        if (how == 0) {
          x.drop(k);
        } else {
          x.raise(k);
        }
        Check.due("up frames", x.ground(9), 19);
        x.begin(2);
        Check.due("tick()", x.tick(), 1);
        Check.due("up frames", x.ground(9), 20);
        Check.row("the last of them", Scene.flight(x, 19), 1, 0, 0);
        Check.due("the one before it", x.flight(18, 2), k == 19 ? 1018 : 1019);
        Check.due("the first of them", x.flight(0, 2), k == 0 ? 1001 : 1000);
      }
    }
  }

  // "if the timer runs, it becomes 1 less, and if it is 0 then: .."

  private static void aTimerOfZeroDoesNotRun() {
    TeleStack x = new TeleStack();
    x.tune(1, 1, 1);
    Scene.ticks(x, 3);
    Check.row("idle", Scene.ground(x), 0, 0, 0, 0, 0, 0, 0, 0, 0);
    x.begin(0);
    Scene.ticks(x, 3);
    Check.row("active", Scene.ground(x), 1, 0, 0, 0, 0, 0, 1, 0, 0);
    x.end();
    x.begin(2);
    Check.due("timer of a starting one", x.ground(7), 0);
    Check.due("tick() that only sends", x.tick(), 1);
    Check.row("no try was used", Scene.ground(x), 5, 0, 0, 0, 0, 0, 1, 1, 0);
  }

  private static void aTimerOfOneRunsOut() {
    TeleStack x = new TeleStack();
    x.tune(1, 9, 2);
    x.begin(0);
    Scene.send(x, 1);
    x.tick();
    Check.due("timer", x.ground(7), 1);
    Check.due("tick()", x.tick(), 0);
    Check.row("sent again at once", Scene.ground(x), 1, 1, 0, 1, 0, 0, 2, 2, 0);
  }

  private static void aTimerOfTwoDoesNotRunOut() {
    TeleStack x = new TeleStack();
    x.tune(1, 9, 2);
    x.begin(0);
    Scene.send(x, 1);
    Check.due("timer", x.ground(7), 2);
    Check.due("tick()", x.tick(), -1);
    Check.row("still 1", Scene.ground(x), 1, 1, 0, 1, 0, 0, 1, 1, 0);
  }

  // "if ACTIVE or RESENDING: if TRIES is less than LIMIT, RESEND (an ACTIVE ground stays ACTIVE),
  // else ALARM 5"

  private static void anActiveTimerBelowTheLimit() {
    for (int limit = 2; limit <= 9; limit++) {
      TeleStack x = tried(limit - 1, limit);
      x.command(3);
      x.tick();
      Check.due("the timer's last", x.ground(7), 1);
      Check.due("tick()", x.tick(), 0);
      Check.row("limit " + limit, Scene.ground(x), 1, 2, 0, 2, 1, 1, limit, 2, 0);
    }
  }

  private static void anActiveTimerAtTheLimit() {
    for (int limit = 1; limit <= 9; limit++) {
      TeleStack x = tried(limit, limit);
      x.command(3);
      x.tick();
      Check.due("the timer's last", x.ground(7), 1);
      int sent = x.ground(9);
      Check.due("tick()", x.tick(), -1);
      Check.row("limit " + limit, Scene.ground(x), 0, 2, 2, 0, 0, 0, limit, 0, 5);
      Check.due("nothing was sent", x.ground(9), sent);
    }
  }

  private static void aResendingTimerBelowAndAtTheLimit() {
    for (int limit = 3; limit <= 9; limit++) {
      TeleStack x = tried(limit - 2, limit);
      Scene.hear(x);
      Check.due("mode", x.ground(0), 2);
      Scene.ticks(x, 3);
      Check.row("all are sent", Scene.ground(x), 2, 2, 0, 2, 0, 0, limit - 1, 1, 0);
      Check.due("tick() below the limit", x.tick(), 0);
      Check.row("resending still", Scene.ground(x), 2, 2, 0, 2, 1, 0, limit, 2, 0);
      Scene.ticks(x, 2);
      Check.row("at the limit", Scene.ground(x), 2, 2, 0, 2, 0, 0, limit, 1, 0);
      Check.due("tick() at the limit", x.tick(), -1);
      Check.row("alarm 5", Scene.ground(x), 0, 2, 2, 0, 0, 0, limit, 0, 5);
    }
  }

  // "if HELD: ALARM 5 if TRIES is not less than LIMIT"

  private static TeleStack held(int tries, int limit) {
    TeleStack x = Scene.craftAt(0, Scene.WAITING, true);
    x.tune(1, limit, 2);
    x.begin(0);
    Scene.send(x, 1);
    Scene.ticks(x, 2 * (tries - 1));
    Scene.hear(x);
    x.command(2);
    Check.row("held", Scene.ground(x), 3, 1, 0, 1, 0, 1, tries, 2, 0);
    return x;
  }

  private static void aHeldTimerBelowTheLimit() {
    for (int limit = 2; limit <= 9; limit++) {
      TeleStack x = held(limit - 1, limit);
      int sent = x.ground(9);
      for (int i = 0; i < 5; i++) {
        Check.due("tick()", x.tick(), -1);
        int timer = i == 0 ? 1 : 0;
        Check.row("held on", Scene.ground(x), 3, 1, 0, 1, 0, 1, limit - 1, timer, 0);
      }
      Check.due("nothing was sent", x.ground(9), sent);
    }
  }

  private static void aHeldTimerAtTheLimit() {
    for (int limit = 1; limit <= 9; limit++) {
      TeleStack x = held(limit, limit);
      Check.due("tick()", x.tick(), -1);
      Check.row("not yet", Scene.ground(x), 3, 1, 0, 1, 0, 1, limit, 1, 0);
      Check.due("tick()", x.tick(), -1);
      Check.row("alarm 5", Scene.ground(x), 0, 1, 1, 0, 0, 0, limit, 0, 5);
    }
  }

  // "if CHECKING: ALARM 5"

  private static void aCheckingTimerBelowTheLimit() {
    for (int limit : new int[] {1, 2, 9}) {
      TeleStack x = new TeleStack();
      x.tune(4, limit, 1);
      x.number(6);
      x.begin(1);
      Check.row("checking", Scene.ground(x), 4, 6, 6, 0, 0, 0, 1, 1, 0);
      Check.due("tick()", x.tick(), -1);
      Check.row("alarm 5", Scene.ground(x), 0, 6, 6, 0, 0, 0, 1, 0, 5);
      Check.due("nothing was sent", x.ground(9), 0);
    }
  }

  // "if STARTING: if TRIES is less than LIMIT, TRIES grows by 1 and its frame is to be sent, else
  // ALARM 5."

  private static void aStartingTimerBelowAndAtTheLimit() {
    for (int how = 2; how <= 3; how++) {
      for (int limit = 1; limit <= 9; limit++) {
        TeleStack x = new TeleStack();
        x.tune(1, limit, 2);
        x.number(12);
        x.begin(how);
        for (int tries = 1; tries <= limit; tries++) {
          Check.due("tick() that sends", x.tick(), how - 1);
          Check.row("sent", Scene.ground(x), 5, 12, 12, 0, 0, 0, tries, 2, 0);
          int[] frame = Scene.flight(x, tries - 1);
          Check.row("its frame", frame, how - 1, how == 3 ? 12 : 0, 0);
          Check.due("tick() that waits", x.tick(), -1);
        }
        Check.due("tick() at the limit", x.tick(), -1);
        Check.row("alarm 5", Scene.ground(x), 0, 12, 12, 0, 0, 0, limit, 0, 5);
        Check.due("frames that were sent", x.ground(9), limit);
      }
    }
  }

  // "Then the ground sends at most one frame"

  private static void aTickSendsAtMostOneFrame() {
    TeleStack x = new TeleStack();
    x.tune(4, 9, 3);
    x.begin(0);
    Scene.send(x, 1, 2, 3);
    Scene.ticks(x, 2);
    x.command(4);
    Check.due("tick() that runs out sends a marked one", x.tick(), 0);
    Check.row("the first", Scene.ground(x), 1, 3, 0, 3, 2, 1, 2, 3, 0);
    for (int i = 0; i < 4; i++) {
      Check.due("up frames", x.ground(9), 4 + i);
      Check.due("its number", x.flight(3 + i, 1), i);
      x.tick();
    }
    Check.due("up frames when all are sent", x.ground(9), 7);
  }

  private static void aTickOfTheOtherModesSendsNone() {
    for (int mode : new int[] {0, 3, 4}) {
      TeleStack x = Scene.busy(mode);
      int sent = x.ground(9);
      Check.due("tick() in mode " + mode, x.tick(), -1);
      Check.due("up frames", x.ground(9), sent);
    }
  }

  // "the first marked one, which is marked no more; if there is none, and the slot has a command,
  // and fewer frames than the window are unacknowledged: one with the number NEXT and that command"

  private static void theSlotIsEmpty() {
    TeleStack x = new TeleStack();
    x.begin(0);
    Check.due("tick() with nothing", x.tick(), -1);
    Check.row("ground", Scene.ground(x), 1, 0, 0, 0, 0, 0, 1, 0, 0);
    Scene.send(x, 0);
    Check.due("tick() with the slot sent", x.tick(), -1);
    Check.row("ground", Scene.ground(x), 1, 1, 0, 1, 0, 0, 1, 4, 0);
  }

  private static void theWindowIsFull() {
    for (int window = 1; window <= 4; window++) {
      TeleStack x = new TeleStack();
      x.tune(window, 9, 20);
      x.begin(0);
      for (int i = 0; i < window; i++) {
        Scene.send(x, i);
      }
      x.command(70);
      for (int i = 1; i <= 3; i++) {
        Check.due("tick()", x.tick(), -1);
        int[] due = {1, window, 0, window, 0, 1, 1, 20 - i, 0};
        Check.row("a window of " + window, Scene.ground(x), due);
      }
      Check.due("a second command", x.command(71), false);
    }
  }

  private static void theLastPlaceOfTheWindow() {
    for (int window = 1; window <= 4; window++) {
      TeleStack x = new TeleStack();
      x.tune(window, 9, 20);
      x.begin(0);
      for (int i = 0; i < window; i++) {
        Scene.send(x, i);
      }
      x.command(70);
      x.raise(0);
      Scene.hear(x);
      Check.due("unacknowledged", x.ground(3), window - 1);
      Check.due("tick() with a place free", x.tick(), 0);
      Check.row("what was sent", Scene.flight(x, window - 1), 0, window, 70);
      int[] due = {1, window + 1, 1, window, 0, 0, 1, 20, 0};
      Check.row("a window of " + window, Scene.ground(x), due);
    }
  }

  private static void aMarkedFrameGoesThroughAFullWindow() {
    TeleStack x = new TeleStack();
    x.tune(1, 9, 1);
    x.begin(0);
    Scene.send(x, 8);
    x.command(9);
    Check.due("tick()", x.tick(), 0);
    Check.row("the marked one", Scene.flight(x, 1), 0, 0, 8);
    Check.row("the slot waits", Scene.ground(x), 1, 1, 0, 1, 0, 1, 2, 1, 0);
  }

  // "it is unacknowledged, behind the others, and if it is the only one, TRIES is 1."

  private static void theOnlyFrameBeginsTheTriesAnew() {
    TeleStack x = new TeleStack();
    x.tune(2, 9, 1);
    x.begin(0);
    Scene.send(x, 1);
    Scene.ticks(x, 3);
    Check.due("TRIES of the first", x.ground(6), 4);
    x.raise(0);
    Scene.hear(x);
    Scene.send(x, 2);
    Check.row("the only one", Scene.ground(x), 1, 2, 1, 1, 0, 0, 1, 1, 0);
    TeleStack y = new TeleStack();
    y.tune(2, 9, 2);
    y.begin(0);
    Scene.send(y, 1);
    Scene.ticks(y, 4);
    Scene.send(y, 2);
    Check.row("not the only one", Scene.ground(y), 1, 2, 0, 2, 0, 0, 3, 2, 0);
    Scene.ticks(y, 3);
    Check.due("the first goes first", y.flight(4, 1), 0);
    Check.due("the second behind it", y.flight(5, 1), 1);
  }
}
