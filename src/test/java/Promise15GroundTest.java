final class Promise15GroundTest {
  public static void main(String[] args) {
    eachWhatIsTold();
    everyModeIsTold();
    askingChangesNothing();
    anotherWhatIsRefused();
    Check.close();
  }

  private static void eachWhatIsTold() {
    TeleStack x = Scene.craftAt(5, Scene.OPEN, true);
    x.tune(4, 9, 7);
    x.number(4);
    x.begin(0);
    Scene.send(x, 1, 2, 3, 4);
    x.command(5);
    Scene.hear(x);
    x.report();
    x.report();
    x.tick();
    x.tick();
    x.tick();
    int[] due = {2, 8, 5, 3, 0, 1, 2, 7, 0, 7, 2};
    for (int what = 0; what < due.length; what++) {
      Check.due("ground(" + what + ")", x.ground(what), due[what]);
    }
    x.tick();
    x.tick();
    Check.due("timer", x.ground(7), 6);
    Check.due("slot, empty now", x.ground(5), 0);
    Check.due("unacknowledged", x.ground(3), 4);
    Scene.ticks(x, 6);
    Check.due("marked", x.ground(4), 3);
    Check.due("TRIES", x.ground(6), 3);
  }

  private static void everyModeIsTold() {
    for (int mode = 0; mode <= 5; mode++) {
      Check.due("mode", Scene.groundIn(mode).ground(0), mode);
    }
  }

  private static void askingChangesNothing() {
    TeleStack x = Scene.groundIn(Scene.RESENDING);
    String before = Scene.allOf(x);
    Check.due("the same again", before.equals(Scene.allOf(x)), true);
  }

  private static void anotherWhatIsRefused() {
    TeleStack x = Scene.groundIn(Scene.ACTIVE);
    for (int what : new int[] {-1, 11, 12, Integer.MIN_VALUE, Integer.MAX_VALUE}) {
      Check.refused("ground", x, IndexOutOfBoundsException.class, () -> x.ground(what));
    }
  }
}
