final class Promise12AnswerTest {
  public static void main(String[] args) {
    theReportAtKComes();
    anIdleGroundHearsNothing();
    aStartingGroundAwaitsItsNumber();
    aLockedCraftAlarmsAllOthers();
    aWrongNumberAlarms();
    framesAreAcknowledged();
    allAcknowledged();
    noneAcknowledgedAndAllIsWell();
    againAndWaitingHolds();
    againResends();
    againAtTheLimitAlarms();
    aResendingGroundIsNotDisturbed();
    marksStayBehindTheAcknowledged();
    wrongPlacesAreRefused();
    Check.close();
  }

  /** A ground at number 0 with so many unacknowledged frames, and a report that is on its way. */
  private static TeleStack pending(int frames, int limit, int expected, int gate, boolean again) {
    TeleStack x = Scene.craftAt(expected, gate, again);
    x.report();
    x.tune(4, limit, 5);
    x.begin(0);
    for (int i = 0; i < frames; i++) {
      Scene.send(x, i);
    }
    return x;
  }

  private static void theReportAtKComes() {
    TeleStack x = new TeleStack();
    x.report();
    Scene.comeIn(x, 0, 1);
    x.report();
    Scene.comeIn(x, 1, 1);
    x.report();
    x.number(0);
    x.begin(0);
    Scene.send(x, 1, 2, 3);
    x.answer(1, true);
    Check.due("a lost one is gone", x.ground(10), 2);
    Check.due("and was not heard", x.ground(2), 0);
    x.answer(1, false);
    Check.due("the last was heard", x.ground(2), 2);
    Check.due("and is gone", x.ground(10), 1);
    x.answer(0, false);
    Check.row("an old one alarms", Scene.ground(x), 0, 3, 3, 0, 0, 0, 1, 0, 4);
    Check.due("none is left", x.ground(10), 0);
  }

  private static void anIdleGroundHearsNothing() {
    for (int gate = 0; gate <= 2; gate++) {
      TeleStack x = Scene.craftAt(7, gate, true);
      x.report();
      int tries = x.ground(6);
      x.answer(0, false);
      Check.row("idle", Scene.ground(x), 0, 0, 0, 0, 0, 0, tries, 0, 0);
      Check.due("reports", x.ground(10), 0);
    }
  }

  private static void aStartingGroundAwaitsItsNumber() {
    for (int how = 2; how <= 3; how++) {
      for (int gate = 0; gate <= 2; gate++) {
        for (int again = gate == 1 ? 1 : 0; again <= 1; again++) {
          for (int expected = 8; expected <= 10; expected++) {
            TeleStack x = Scene.craftAt(expected, gate, again == 1);
            x.report();
            x.tune(3, 4, 1);
            x.number(9);
            x.begin(how);
            Scene.ticks(x, 2);
            x.answer(0, false);
            String what = "starting, gate " + gate + ", again " + again + ", r " + expected;
            if (gate == 0 && again == 0 && expected == 9) {
              Check.row(what, Scene.ground(x), 1, 9, 9, 0, 0, 0, 1, 0, 0);
            } else {
              Check.row(what, Scene.ground(x), 5, 9, 9, 0, 0, 0, 2, 1, 0);
            }
          }
        }
      }
    }
  }

  private static void aLockedCraftAlarmsAllOthers() {
    for (int again = 0; again <= 1; again++) {
      for (int expected = 0; expected <= 5; expected++) {
        TeleStack x = pending(3, 4, expected, Scene.LOCKED, again == 1);
        x.command(9);
        x.answer(0, false);
        Check.row("locked", Scene.ground(x), 0, 3, 3, 0, 0, 0, 1, 0, 2);
        TeleStack y = Scene.craftAt(expected, Scene.LOCKED, again == 1);
        y.begin(1);
        Scene.hear(y);
        Check.row("locked when checking", Scene.ground(y), 0, 0, 0, 0, 0, 0, 1, 0, 2);
      }
    }
    for (int gate = 0; gate <= 1; gate++) {
      TeleStack x = Scene.craftAt(0, gate, true);
      x.report();
      Scene.comeIn(x, 8, 1);
      x.report();
      x.number(0);
      x.begin(0);
      Scene.send(x, 1);
      x.answer(0, false);
      Check.due("mode", x.ground(0), gate == Scene.OPEN ? Scene.RESENDING : Scene.HELD);
      int tries = x.ground(6);
      x.answer(0, false);
      Check.row("locked when waiting or again", Scene.ground(x), 0, 1, 1, 0, 0, 0, tries, 0, 2);
    }
  }

  private static void aWrongNumberAlarms() {
    for (int frames = 0; frames <= 4; frames++) {
      for (int expected = 0; expected <= 15; expected++) {
        TeleStack x = pending(frames, 4, expected, Scene.OPEN, false);
        x.answer(0, false);
        String what = frames + " frames, r " + expected;
        if (expected > frames) {
          Check.row(what, Scene.ground(x), 0, frames, frames, 0, 0, 0, 1, 0, 4);
        } else {
          int left = frames - expected;
          int timer = left == 0 ? 0 : 5;
          Check.row(what, Scene.ground(x), 1, frames, expected, left, 0, 0, 1, timer, 0);
        }
      }
    }
    TeleStack x = pending(2, 4, 3, Scene.WAITING, true);
    x.answer(0, false);
    Check.row("a wrong number, waiting", Scene.ground(x), 0, 2, 2, 0, 0, 0, 1, 0, 4);
    TeleStack y = Scene.craftAt(1, Scene.OPEN, false);
    y.begin(1);
    Scene.hear(y);
    Check.row("a wrong number, checking", Scene.ground(y), 0, 0, 0, 0, 0, 0, 1, 0, 4);
  }

  private static void framesAreAcknowledged() {
    TeleStack x = Scene.craftAt(1, Scene.OPEN, false);
    x.report();
    x.tune(4, 4, 3);
    x.number(14);
    x.begin(0);
    Scene.send(x, 51, 52, 53, 54);
    Scene.ticks(x, 3);
    Check.row("before", Scene.ground(x), 1, 2, 14, 4, 3, 0, 2, 3, 0);
    x.answer(0, false);
    Check.row("three are acknowledged, TRIES 1", Scene.ground(x), 1, 2, 1, 1, 1, 0, 1, 3, 0);
    x.tick();
    Check.row("the fourth goes", Scene.flight(x, x.ground(9) - 1), 0, 1, 54);
  }

  private static void allAcknowledged() {
    TeleStack well = pending(2, 4, 2, Scene.OPEN, false);
    Scene.ticks(well, 7);
    Check.due("TRIES before", well.ground(6), 2);
    well.answer(0, false);
    Check.row("all is well", Scene.ground(well), 1, 2, 2, 0, 0, 0, 1, 0, 0);
    TeleStack again = pending(2, 4, 2, Scene.OPEN, true);
    again.answer(0, false);
    Check.row("AGAIN for nothing", Scene.ground(again), 0, 2, 2, 0, 0, 0, 1, 0, 3);
    TeleStack waiting = pending(2, 4, 2, Scene.WAITING, true);
    waiting.answer(0, false);
    Check.row("AGAIN and waiting for nothing", Scene.ground(waiting), 0, 2, 2, 0, 0, 0, 1, 0, 3);
    TeleStack checked = Scene.craftAt(0, Scene.OPEN, false);
    checked.begin(1);
    Scene.hear(checked);
    Check.row("checked", Scene.ground(checked), 1, 0, 0, 0, 0, 0, 1, 0, 0);
    TeleStack unchecked = Scene.craftAt(0, Scene.OPEN, true);
    unchecked.begin(1);
    Scene.hear(unchecked);
    Check.row("AGAIN when checking", Scene.ground(unchecked), 0, 0, 0, 0, 0, 0, 1, 0, 3);
  }

  private static void noneAcknowledgedAndAllIsWell() {
    TeleStack x = pending(2, 4, 0, Scene.OPEN, false);
    Scene.ticks(x, 8);
    Check.due("TRIES before", x.ground(6), 2);
    int timer = x.ground(7);
    x.answer(0, false);
    Check.row("TRIES and timer stay", Scene.ground(x), 1, 2, 0, 2, 0, 0, 2, timer, 0);
    // The UNLOCK that makes the craft well again flies before the ground begins.
    TeleStack y = Scene.craftAt(0, Scene.WAITING, true);
    Scene.flyUnlock(y);
    y.begin(0);
    Scene.send(y, 1);
    Scene.hear(y);
    Check.due("held", y.ground(0), 3);
    y.raise(0);
    Scene.hear(y);
    Check.row("active again", Scene.ground(y), 1, 1, 0, 1, 0, 0, 1, 5, 0);
  }

  private static void againAndWaitingHolds() {
    TeleStack none = pending(2, 4, 0, Scene.WAITING, true);
    none.answer(0, false);
    Check.row("none acknowledged", Scene.ground(none), 3, 2, 0, 2, 0, 0, 1, 5, 0);
    TeleStack some = pending(2, 2, 1, Scene.WAITING, true);
    some.answer(0, false);
    Check.row("some acknowledged", Scene.ground(some), 3, 2, 1, 1, 0, 0, 1, 5, 0);
    TeleStack limitNone = pending(2, 1, 0, Scene.WAITING, true);
    limitNone.answer(0, false);
    Check.row("limit 1, none", Scene.ground(limitNone), 3, 2, 0, 2, 0, 0, 1, 5, 0);
    TeleStack limitSome = pending(2, 1, 1, Scene.WAITING, true);
    limitSome.answer(0, false);
    Check.row("limit 1, some", Scene.ground(limitSome), 0, 2, 2, 0, 0, 0, 1, 0, 1);
  }

  private static void againResends() {
    TeleStack none = pending(3, 4, 0, Scene.OPEN, true);
    none.answer(0, false);
    Check.row("none acknowledged", Scene.ground(none), 2, 3, 0, 3, 3, 0, 2, 5, 0);
    TeleStack some = pending(3, 4, 2, Scene.OPEN, true);
    some.answer(0, false);
    Check.row("some acknowledged", Scene.ground(some), 2, 3, 2, 1, 1, 0, 2, 5, 0);
    some.tick();
    Check.row("what goes again", Scene.flight(some, some.ground(9) - 1), 0, 2, 2);
    TeleStack held = Scene.groundIn(Scene.HELD);
    held.take();
    Scene.hear(held);
    Check.row("held no more", Scene.ground(held), 2, 1, 0, 1, 1, 0, 2, 5, 0);
  }

  private static void againAtTheLimitAlarms() {
    TeleStack x = pending(3, 1, 0, Scene.OPEN, true);
    x.answer(0, false);
    Check.row("limit 1, none", Scene.ground(x), 0, 3, 3, 0, 0, 0, 1, 0, 1);
    TeleStack y = pending(3, 1, 1, Scene.OPEN, true);
    y.answer(0, false);
    Check.row("limit 1, some", Scene.ground(y), 0, 3, 3, 0, 0, 0, 1, 0, 1);
    TeleStack z = pending(1, 2, 0, Scene.OPEN, true);
    Scene.ticks(z, 5);
    Check.due("TRIES", z.ground(6), 2);
    z.answer(0, false);
    Check.row("limit 2", Scene.ground(z), 0, 1, 1, 0, 0, 0, 2, 0, 1);
  }

  private static void aResendingGroundIsNotDisturbed() {
    TeleStack x = pending(3, 9, 0, Scene.OPEN, true);
    x.report();
    x.answer(0, false);
    x.tick();
    Check.row("resending", Scene.ground(x), 2, 3, 0, 3, 2, 0, 2, 5, 0);
    x.answer(0, false);
    Check.row("none acknowledged", Scene.ground(x), 2, 3, 0, 3, 2, 0, 2, 5, 0);
    TeleStack y = Scene.craftAt(0, Scene.OPEN, true);
    y.report();
    Scene.comeIn(y, 0, 1);
    Scene.comeIn(y, 2, 1);
    y.report();
    y.number(0);
    y.begin(0);
    Scene.send(y, 1, 2, 3);
    y.answer(0, false);
    Scene.ticks(y, 3);
    Check.row("resending, all sent", Scene.ground(y), 2, 3, 0, 3, 0, 0, 2, 5, 0);
    y.answer(0, false);
    Check.row("some acknowledged", Scene.ground(y), 2, 3, 1, 2, 2, 0, 2, 5, 0);
  }

  private static void marksStayBehindTheAcknowledged() {
    TeleStack x = Scene.craftAt(0, Scene.OPEN, true);
    x.report();
    Scene.comeIn(x, 0, 1);
    x.report();
    x.number(0);
    x.begin(0);
    Scene.send(x, 1, 2, 3);
    x.answer(0, false);
    x.tick();
    x.answer(0, false);
    Check.row("active, marks stay", Scene.ground(x), 1, 3, 1, 2, 2, 0, 1, 5, 0);
    x.tick();
    Check.row("the first marked", Scene.flight(x, x.ground(9) - 1), 0, 1, 2);
  }

  private static void wrongPlacesAreRefused() {
    TeleStack none = new TeleStack();
    Check.refused("answer", none, IndexOutOfBoundsException.class, () -> none.answer(0, true));
    for (int k : new int[] {-1, 2, 20, Integer.MIN_VALUE, Integer.MAX_VALUE}) {
      TeleStack x = new TeleStack();
      x.report();
      x.report();
      Check.refused("answer", x, IndexOutOfBoundsException.class, () -> x.answer(k, false));
      Check.refused("lost answer", x, IndexOutOfBoundsException.class, () -> x.answer(k, true));
    }
  }
}
