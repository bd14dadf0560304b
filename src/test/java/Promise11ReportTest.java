final class Promise11ReportTest {
  public static void main(String[] args) {
    atMostTwentyAreOnTheirWay();
    aReportTellsWhatWasThen();
    Check.close();
  }

  private static void atMostTwentyAreOnTheirWay() {
    TeleStack x = new TeleStack();
    for (int i = 1; i <= 20; i++) {
      Check.due("report " + i, x.report(), true);
      Check.due("reports", x.ground(10), i);
    }
    Check.due("report 21", x.report(), false);
    Check.due("reports", x.ground(10), 20);
    x.answer(7, true);
    Check.due("report with room again", x.report(), true);
    Check.due("reports", x.ground(10), 20);
    Check.row("the craft is as it was", Scene.craft(x), 0, 0, 0, 0);
  }

  private static void aReportTellsWhatWasThen() {
    TeleStack x = new TeleStack();
    x.report();
    Scene.comeIn(x, 0, 1);
    x.report();
    Scene.comeIn(x, 3, 1);
    x.report();
    Scene.comeIn(x, 9, 1);
    x.report();
    Scene.comeUnlock(x);
    Scene.comeSet(x, 5);
    x.number(0);
    x.begin(1);
    x.answer(0, false);
    Check.row("r 0", Scene.ground(x), 1, 0, 0, 0, 0, 0, 1, 0, 0);
    Scene.send(x, 1, 2);
    x.answer(0, false);
    Check.row("r 1", Scene.ground(x), 1, 2, 1, 1, 0, 0, 1, 5, 0);
    x.answer(0, false);
    Check.row("r 1 and AGAIN", Scene.ground(x), 2, 2, 1, 1, 1, 0, 2, 5, 0);
    x.answer(0, false);
    Check.row("locked", Scene.ground(x), 0, 2, 2, 0, 0, 0, 2, 0, 2);
  }
}
