final class Promise06CommandTest {
  public static void main(String[] args) {
    theSlotHoldsOne();
    anyIntIsACommand();
    activeResendingAndHeldTakeIt();
    theOthersRefuseIt();
    Check.close();
  }

  private static void theSlotHoldsOne() {
    TeleStack x = new TeleStack();
    x.begin(0);
    Check.due("first command", x.command(5), true);
    Check.due("slot", x.ground(5), 1);
    Check.due("second command", x.command(6), false);
    Check.row("ground", Scene.ground(x), 1, 0, 0, 0, 0, 1, 1, 0, 0);
    x.tick();
    Check.row("what was sent", Scene.flight(x, 0), 0, 0, 5);
    Check.due("slot after sending", x.ground(5), 0);
    Check.due("third command", x.command(7), true);
  }

  private static void anyIntIsACommand() {
    for (int c : new int[] {0, -1, Integer.MIN_VALUE, Integer.MAX_VALUE}) {
      TeleStack x = new TeleStack();
      x.begin(0);
      Scene.send(x, c);
      Check.row("what was sent", Scene.flight(x, 0), 0, 0, c);
      x.raise(0);
      Check.due("take()", x.take(), c);
    }
  }

  private static void activeResendingAndHeldTakeIt() {
    for (int mode = 1; mode <= 3; mode++) {
      TeleStack x = Scene.groundIn(mode);
      Check.due("command in mode " + mode, x.command(8), true);
      Check.due("mode", x.ground(0), mode);
      Check.due("command again in mode " + mode, x.command(9), false);
    }
  }

  private static void theOthersRefuseIt() {
    for (int mode : new int[] {0, 4, 5}) {
      TeleStack x = Scene.groundIn(mode);
      Check.refused("command", x, IllegalStateException.class, () -> x.command(1));
    }
  }
}
