final class Promise16CraftTest {
  public static void main(String[] args) {
    eachWhatIsTold();
    anotherWhatIsRefused();
    Check.close();
  }

  private static void eachWhatIsTold() {
    TeleStack x = Scene.craftAt(11, Scene.WAITING, true);
    x.packet(0, 1, 3);
    x.packet(1, 1, 9);
    int[] due = {1, 11, 1, 3, 5, 11};
    for (int what = 0; what < due.length; what++) {
      Check.due("craft(" + what + ")", x.craft(what), due[what]);
    }
    Scene.comeUnlock(x);
    x.take();
    x.frame(1, true);
    due = new int[] {0, 11, 0, 2, 5, 5};
    for (int what = 0; what < due.length; what++) {
      Check.due("craft(" + what + ") later", x.craft(what), due[what]);
    }
    Check.due("locked", Scene.craftAt(1, Scene.LOCKED, false).craft(0), 2);
  }

  private static void anotherWhatIsRefused() {
    TeleStack x = Scene.craftAt(2, Scene.OPEN, true);
    for (int what : new int[] {-1, 6, 7, Integer.MIN_VALUE, Integer.MAX_VALUE}) {
      Check.refused("craft", x, IndexOutOfBoundsException.class, () -> x.craft(what));
    }
  }
}
