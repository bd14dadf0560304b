/** The boundary cases of 'Terms', REPORTS: the full list, and what a report does at the ground. */
final class EdgesReportsTest {
  public static void main(String[] args) {
    theTwentiethReportIsOnItsWay();
    theTwentyFirstReportIsNot();
    thereIsRoomBehindNineteen();
    aReportIsAsItWasThen();
    anyPlaceOfTheListComes();
    aLostReportIsNotHeard();
    anIdleGroundHearsNothing();
    aStartingGroundHearsItsNumberOnly();
    aStartingGroundHearsNoneThatIsNotWell();
    aStartingGroundHearsBeforeItHasSent();
    lockedComesBeforeAWrongNumber();
    theMostThatCanBeAcknowledged();
    oneMoreThanCanBeAcknowledged();
    oneThatIsOld();
    acknowledgingGoesRound();
    someWereAcknowledged();
    noneWereAcknowledged();
    marksGoWithTheirFrames();
    theTimerGoesOnWhileSomeAreLeft();
    noFrameIsLeftAndAgain();
    noFrameIsLeftAndAllIsWell();
    someAreLeftAndNotAgain();
    heldByAgainAndWaiting();
    heldWithALimitOfOne();
    againWhenResending();
    againWhenNotResending();
    againWithALimitOfOne();
    Check.close();
  }

  // "REPORTS on their way are in a list, at most 20"; promise 11: "false when there are 20."

  private static void theTwentiethReportIsOnItsWay() {
    TeleStack x = Scene.reports(19);
    Check.due("report 20", x.report(), true);
    Check.due("reports", x.ground(10), 20);
  }

  private static void theTwentyFirstReportIsNot() {
    TeleStack x = Scene.reports(20);
    Scene.comeIn(x, 0, 1);
    Check.due("report 21", x.report(), false);
    Check.due("report 22", x.report(), false);
    Check.due("reports", x.ground(10), 20);
    x.number(0);
    x.begin(0);
    Scene.send(x, 1);
    for (int left = 19; left >= 0; left--) {
      x.answer(left, false);
      Check.row("all are from before", Scene.ground(x), 1, 1, 0, 1, 0, 0, 1, 5, 0);
      Check.due("reports", x.ground(10), left);
    }
  }

  private static void thereIsRoomBehindNineteen() {
    for (int k : new int[] {0, 10, 19}) {
      for (int lost = 0; lost <= 1; lost++) {
        TeleStack x = Scene.reports(20);
        Scene.comeIn(x, 0, 1);
        x.answer(k, lost == 1);
        Check.due("reports", x.ground(10), 19);
        Check.due("report()", x.report(), true);
        Check.due("report() beyond it", x.report(), false);
        x.number(0);
        x.begin(0);
        Scene.send(x, 1, 2);
        x.answer(18, false);
        Check.due("the one before it", x.ground(2), 0);
        x.answer(18, false);
        Check.due("it is the last", x.ground(2), 1);
      }
    }
  }

  // "each has EXPECTED and AGAIN as they were, and whether it was LOCKED, and WAITING."

  private static void aReportIsAsItWasThen() {
    TeleStack x = Scene.craftAt(7, Scene.WAITING, true);
    x.report();
    x.take();
    x.report();
    Scene.comeIn(x, 7, 1);
    x.report();
    Scene.comeIn(x, 15, 1);
    x.report();
    Scene.comeUnlock(x);
    x.number(7);
    x.begin(0);
    Scene.send(x, 1, 2);
    x.answer(0, false);
    Check.row("waiting", Scene.ground(x), 3, 9, 7, 2, 0, 0, 1, 5, 0);
    x.answer(0, false);
    Check.row("AGAIN, not waiting", Scene.ground(x), 2, 9, 7, 2, 2, 0, 2, 5, 0);
    x.answer(0, false);
    Check.row("EXPECTED 8, not AGAIN", Scene.ground(x), 1, 9, 8, 1, 1, 0, 1, 5, 0);
    x.answer(0, false);
    Check.row("locked", Scene.ground(x), 0, 9, 9, 0, 0, 0, 1, 0, 2);
  }

  /** Reports with the numbers 0, 1 and 2, and a ground with four frames 0 .. 3. */
  private static TeleStack threeReports() {
    TeleStack x = new TeleStack();
    x.tune(4, 4, 5);
    x.report();
    Scene.comeIn(x, 0, 1);
    x.report();
    Scene.comeIn(x, 1, 1);
    x.report();
    x.number(0);
    x.begin(0);
    Scene.send(x, 1, 2, 3, 4);
    return x;
  }

  // Promise 12: "Report k (0 the oldest) comes to the ground"

  private static void anyPlaceOfTheListComes() {
    for (int k = 0; k <= 2; k++) {
      TeleStack x = threeReports();
      x.answer(k, false);
      Check.row("report " + k, Scene.ground(x), 1, 4, k, 4 - k, 0, 0, 1, 5, 0);
      Check.due("reports", x.ground(10), 2);
      x.answer(1, false);
      // Behind report 2, report 1 is old: the ground alarms, and OLDEST is NEXT.
      Check.due("the last of the rest", x.ground(2), k == 2 ? 4 : 2);
      Check.due("reports", x.ground(10), 1);
    }
  }

  // "or (lost) does not; it is not on its way any more."

  private static void aLostReportIsNotHeard() {
    for (int k = 0; k <= 2; k++) {
      TeleStack x = threeReports();
      x.answer(k, true);
      Check.row("report " + k + " lost", Scene.ground(x), 1, 4, 0, 4, 0, 0, 1, 5, 0);
      Check.due("reports", x.ground(10), 2);
      x.answer(1, false);
      Check.due("the last of the rest", x.ground(2), k == 2 ? 1 : 2);
    }
    TeleStack locked = Scene.craftAt(9, Scene.LOCKED, true);
    locked.report();
    locked.begin(1);
    locked.answer(0, true);
    Check.due("mode", locked.ground(0), 4);
  }

  // "IDLE: nothing."

  private static void anIdleGroundHearsNothing() {
    for (int gate = 0; gate <= 2; gate++) {
      for (int n = 8; n <= 10; n++) {
        TeleStack x = Scene.craftAt(9, gate, true);
        x.number(n);
        int tries = x.ground(6);
        x.report();
        x.answer(0, false);
        Check.row("gate " + gate, Scene.ground(x), 0, n, n, 0, 0, 0, tries, 0, 0);
        Check.due("it came", x.ground(10), 0);
      }
    }
  }

  // "STARTING: if it is neither locked, waiting nor AGAIN, and r is NEXT: ACTIVE, TRIES 1, timer 0;
  // if not, nothing."

  private static TeleStack starting(int how, int next, int expected, int gate, boolean again) {
    TeleStack x = Scene.craftAt(expected, gate, again);
    x.report();
    x.tune(3, 4, 2);
    x.number(next);
    x.begin(how);
    Scene.ticks(x, 4);
    x.answer(0, false);
    return x;
  }

  private static void aStartingGroundHearsItsNumberOnly() {
    for (int how = 2; how <= 3; how++) {
      for (int next : new int[] {0, 7, 15}) {
        for (int expected = 0; expected <= 15; expected++) {
          TeleStack x = starting(how, next, expected, Scene.OPEN, false);
          String what = "r " + expected + ", NEXT " + next;
          if (expected == next) {
            Check.row(what, Scene.ground(x), 1, next, next, 0, 0, 0, 1, 0, 0);
          } else {
            Check.row(what, Scene.ground(x), 5, next, next, 0, 0, 0, 2, 1, 0);
          }
        }
      }
    }
  }

  private static void aStartingGroundHearsNoneThatIsNotWell() {
    for (int how = 2; how <= 3; how++) {
      int[] due = {5, 6, 6, 0, 0, 0, 2, 1, 0};
      Check.row("AGAIN", Scene.ground(starting(how, 6, 6, Scene.OPEN, true)), due);
      Check.row("waiting", Scene.ground(starting(how, 6, 6, Scene.WAITING, true)), due);
      Check.row("locked", Scene.ground(starting(how, 6, 6, Scene.LOCKED, false)), due);
      Check.row("locked, AGAIN", Scene.ground(starting(how, 6, 6, Scene.LOCKED, true)), due);
    }
  }

  private static void aStartingGroundHearsBeforeItHasSent() {
    for (int how = 2; how <= 3; how++) {
      TeleStack x = new TeleStack();
      x.begin(how);
      Scene.hear(x);
      Check.row("active", Scene.ground(x), 1, 0, 0, 0, 0, 0, 1, 0, 0);
      Check.due("tick(): an active ground does not start", x.tick(), -1);
    }
  }

  // "In the other modes the first of these: locked: ALARM 2. r - OLDEST (0 .. 15) is greater than
  // the number of unacknowledged frames: ALARM 4."

  /** Frames from this number on, and a report that is on its way. */
  private static TeleStack frames(int oldest, int many, int limit, int[] told) {
    TeleStack x = Scene.craftAt(told[0], told[1], told[2] == 1);
    x.report();
    x.tune(4, limit, 5);
    x.number(oldest);
    x.begin(0);
    for (int i = 0; i < many; i++) {
      Scene.send(x, 300 + i);
    }
    return x;
  }

  private static int[] told(int expected, int gate, int again) {
    return new int[] {expected % 16, gate, again};
  }

  private static void lockedComesBeforeAWrongNumber() {
    for (int expected = 0; expected <= 15; expected++) {
      for (int many = 0; many <= 4; many += 2) {
        TeleStack x = frames(5, many, 4, told(expected, Scene.LOCKED, expected % 2));
        x.answer(0, false);
        int next = 5 + many;
        Check.row("r " + expected, Scene.ground(x), 0, next, next, 0, 0, 0, 1, 0, 2);
      }
    }
  }

  private static void theMostThatCanBeAcknowledged() {
    for (int oldest = 0; oldest <= 15; oldest++) {
      for (int many = 0; many <= 4; many++) {
        TeleStack x = frames(oldest, many, 4, told(oldest + many, Scene.OPEN, 0));
        x.answer(0, false);
        int next = (oldest + many) % 16;
        Check.row(many + " from " + oldest, Scene.ground(x), 1, next, next, 0, 0, 0, 1, 0, 0);
      }
    }
  }

  private static void oneMoreThanCanBeAcknowledged() {
    for (int oldest = 0; oldest <= 15; oldest++) {
      for (int many = 0; many <= 4; many++) {
        TeleStack x = frames(oldest, many, 4, told(oldest + many + 1, Scene.OPEN, many % 2));
        x.answer(0, false);
        int next = (oldest + many) % 16;
        Check.row(many + " from " + oldest, Scene.ground(x), 0, next, next, 0, 0, 0, 1, 0, 4);
      }
    }
  }

  private static void oneThatIsOld() {
    for (int oldest : new int[] {0, 1, 15}) {
      for (int many = 0; many <= 4; many++) {
        TeleStack x = frames(oldest, many, 4, told(oldest + 15, Scene.OPEN, 0));
        x.answer(0, false);
        int next = (oldest + many) % 16;
        Check.row(many + " from " + oldest, Scene.ground(x), 0, next, next, 0, 0, 0, 1, 0, 4);
      }
    }
  }

  // "Then the first r - OLDEST frames are unacknowledged no more, OLDEST becomes r; if there were
  // any, TRIES is 1."

  private static void acknowledgingGoesRound() {
    for (int many = 0; many <= 3; many++) {
      TeleStack x = frames(14, 4, 4, told(14 + many, Scene.OPEN, 0));
      x.answer(0, false);
      int[] due = {1, 2, (14 + many) % 16, 4 - many, 0, 0, 1, 5, 0};
      Check.row(many + " acknowledged", Scene.ground(x), due);
      Scene.ticks(x, 5);
      int last = x.ground(9) - 1;
      Check.row("the oldest left", Scene.flight(x, last), 0, (14 + many) % 16, 300 + many);
    }
  }

  private static void someWereAcknowledged() {
    TeleStack x = frames(0, 2, 4, told(1, Scene.OPEN, 0));
    Scene.ticks(x, 6);
    Check.row("before", Scene.ground(x), 1, 2, 0, 2, 0, 0, 2, 5, 0);
    x.answer(0, false);
    Check.row("TRIES is 1", Scene.ground(x), 1, 2, 1, 1, 0, 0, 1, 5, 0);
  }

  private static void noneWereAcknowledged() {
    TeleStack x = frames(0, 2, 4, told(0, Scene.OPEN, 0));
    Scene.ticks(x, 6);
    x.answer(0, false);
    Check.row("TRIES stays", Scene.ground(x), 1, 2, 0, 2, 0, 0, 2, 5, 0);
  }

  private static void marksGoWithTheirFrames() {
    for (int sent = 1; sent <= 4; sent++) {
      for (int many = 0; many <= 3; many++) {
        TeleStack x = frames(15, 4, 4, told(15 + many, Scene.OPEN, 0));
        Scene.ticks(x, 4 + sent);
        Check.due("marked", x.ground(4), 4 - sent);
        x.answer(0, false);
        int marked = 4 - Math.max(sent, many);
        Check.due(sent + " sent again, " + many + " acknowledged", x.ground(4), marked);
        if (marked > 0) {
          x.tick();
          int first = 4 - marked;
          int last = x.ground(9) - 1;
          Check.row("the first marked", Scene.flight(x, last), 0, (15 + first) % 16, 300 + first);
        }
      }
    }
  }

  private static void theTimerGoesOnWhileSomeAreLeft() {
    int[][] rows = {{Scene.OPEN, 0, 1}, {Scene.OPEN, 1, 2}, {Scene.WAITING, 1, 3}};
    for (int[] row : rows) {
      for (int many = 0; many <= 1; many++) {
        for (int timer = 1; timer <= 5; timer++) {
          TeleStack x = frames(0, 2, 4, told(many, row[0], row[1]));
          Scene.ticks(x, 5 - timer);
          x.answer(0, false);
          Check.due("mode", x.ground(0), row[2]);
          Check.due("timer, " + many + " acknowledged", x.ground(7), timer);
        }
      }
    }
  }

  // "If no frame is unacknowledged now: AGAIN: ALARM 3; waiting: ALARM 6; else: ACTIVE, timer 0."

  private static void noFrameIsLeftAndAgain() {
    for (int gate = 0; gate <= 1; gate++) {
      for (int many : new int[] {0, 1, 4}) {
        TeleStack x = frames(13, many, 1, told(13 + many, gate, 1));
        x.answer(0, false);
        int next = (13 + many) % 16;
        Check.row(many + ", gate " + gate, Scene.ground(x), 0, next, next, 0, 0, 0, 1, 0, 3);
      }
      TeleStack y = Scene.craftAt(0, gate, true);
      y.begin(1);
      Scene.hear(y);
      Check.row("checking, gate " + gate, Scene.ground(y), 0, 0, 0, 0, 0, 0, 1, 0, 3);
    }
  }

  private static void noFrameIsLeftAndAllIsWell() {
    TeleStack none = frames(0, 0, 4, told(0, Scene.OPEN, 0));
    none.answer(0, false);
    Check.row("there was none", Scene.ground(none), 1, 0, 0, 0, 0, 0, 1, 0, 0);
    TeleStack checking = new TeleStack();
    checking.begin(1);
    Scene.hear(checking);
    Check.row("checking", Scene.ground(checking), 1, 0, 0, 0, 0, 0, 1, 0, 0);
    Scene.ticks(checking, 9);
    Check.row("its timer does not run", Scene.ground(checking), 1, 0, 0, 0, 0, 0, 1, 0, 0);
    for (int gate = 0; gate <= 1; gate++) {
      TeleStack x = Scene.craftAt(0, gate, true);
      x.begin(0);
      Scene.send(x, 1);
      Scene.hear(x);
      Check.due("mode", x.ground(0), gate == 0 ? 2 : 3);
      x.command(2);
      if (gate == 1) {
        x.take();
      }
      x.raise(0);
      Scene.hear(x);
      Check.row("resending or held", Scene.ground(x), 1, 1, 1, 0, 0, 1, 1, 0, 0);
    }
  }

  // "If some are: not AGAIN: waiting: ALARM 6; else: ACTIVE."

  private static void someAreLeftAndNotAgain() {
    for (int gate = 0; gate <= 1; gate++) {
      TeleStack x = Scene.craftAt(0, gate, true);
      Scene.flyUnlock(x);
      x.begin(0);
      Scene.send(x, 1, 2);
      Scene.hear(x);
      Check.due("mode", x.ground(0), gate == 0 ? 2 : 3);
      int tries = x.ground(6);
      int marked = x.ground(4);
      x.raise(0);
      x.command(3);
      Scene.hear(x);
      Check.row("active", Scene.ground(x), 1, 2, 0, 2, marked, 1, tries, 5, 0);
    }
  }

  // "AGAIN and waiting: HELD, but ALARM 1 if LIMIT is 1 and some were acknowledged by this report."

  private static void heldByAgainAndWaiting() {
    for (int limit : new int[] {2, 9}) {
      for (int many = 0; many <= 3; many++) {
        TeleStack x = frames(15, 4, limit, told(15 + many, Scene.WAITING, 1));
        x.answer(0, false);
        int[] due = {3, 3, (15 + many) % 16, 4 - many, 0, 0, 1, 5, 0};
        Check.row(many + " acknowledged", Scene.ground(x), due);
      }
    }
    TeleStack resending = Scene.craftAt(0, Scene.OPEN, true);
    resending.report();
    for (int i = 0; i <= 3; i++) {
      Scene.comeIn(resending, i, 1);
    }
    Scene.comeSet(resending, 0);
    Scene.comeIn(resending, 0, 1);
    resending.report();
    resending.number(0);
    resending.begin(0);
    Scene.send(resending, 1, 2);
    resending.answer(0, false);
    Check.row("resending", Scene.ground(resending), 2, 2, 0, 2, 2, 0, 2, 5, 0);
    resending.answer(0, false);
    Check.row("held", Scene.ground(resending), 3, 2, 0, 2, 2, 0, 2, 5, 0);
    Check.due("tick() when held", resending.tick(), -1);
  }

  private static void heldWithALimitOfOne() {
    TeleStack none = frames(0, 4, 1, told(0, Scene.WAITING, 1));
    none.answer(0, false);
    Check.row("none acknowledged", Scene.ground(none), 3, 4, 0, 4, 0, 0, 1, 5, 0);
    for (int many = 1; many <= 3; many++) {
      TeleStack some = frames(0, 4, 1, told(many, Scene.WAITING, 1));
      some.answer(0, false);
      Check.row(many + " acknowledged", Scene.ground(some), 0, 4, 4, 0, 0, 0, 1, 0, 1);
    }
  }

  // "AGAIN and not waiting: nothing, if it is RESENDING and none were acknowledged by this report;
  // otherwise RESEND."

  /** A RESENDING ground at this limit, with three frames, and a second AGAIN report on its way. */
  private static TeleStack resending(int limit, int acknowledged) {
    TeleStack x = Scene.craftAt(0, Scene.OPEN, true);
    x.report();
    Scene.comeSet(x, acknowledged);
    Scene.comeIn(x, acknowledged + 1, 1);
    x.report();
    x.tune(3, limit, 5);
    x.number(0);
    x.begin(0);
    Scene.send(x, 1, 2, 3);
    x.answer(0, false);
    x.tick();
    Check.row("resending", Scene.ground(x), 2, 3, 0, 3, 2, 0, 2, 5, 0);
    return x;
  }

  private static void againWhenResending() {
    for (int limit : new int[] {2, 9}) {
      TeleStack none = resending(limit, 0);
      none.answer(0, false);
      Check.row("none, limit " + limit, Scene.ground(none), 2, 3, 0, 3, 2, 0, 2, 5, 0);
      TeleStack some = resending(limit, 1);
      Scene.ticks(some, 2);
      some.answer(0, false);
      Check.row("some, limit " + limit, Scene.ground(some), 2, 3, 1, 2, 2, 0, 2, 5, 0);
    }
  }

  private static void againWhenNotResending() {
    for (int many = 0; many <= 3; many++) {
      TeleStack x = frames(12, 4, 2, told(12 + many, Scene.OPEN, 1));
      x.answer(0, false);
      int left = 4 - many;
      int[] due = {2, 0, 12 + many, left, left, 0, 2, 5, 0};
      Check.row("active, " + many + " acknowledged", Scene.ground(x), due);
    }
    TeleStack held = Scene.groundIn(Scene.HELD);
    held.take();
    Scene.hear(held);
    Check.row("held", Scene.ground(held), 2, 1, 0, 1, 1, 0, 2, 5, 0);
  }

  private static void againWithALimitOfOne() {
    for (int many = 0; many <= 3; many++) {
      TeleStack x = frames(0, 4, 1, told(many, Scene.OPEN, 1));
      x.answer(0, false);
      Check.row(many + " acknowledged", Scene.ground(x), 0, 4, 4, 0, 0, 0, 1, 0, 1);
    }
  }
}
