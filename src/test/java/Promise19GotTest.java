import java.util.NoSuchElementException;

final class Promise19GotTest {
  public static void main(String[] args) {
    eachWhatIsTold();
    anotherWhatIsZero();
    noSuchPacketIsRefused();
    Check.close();
  }

  private static TeleStack twoPackets() {
    TeleStack x = new TeleStack();
    x.packet(1, 12, 3);
    x.packet(0, 99, 2);
    x.frame(1, false);
    x.frame(0, false);
    return x;
  }

  private static void eachWhatIsTold() {
    TeleStack x = twoPackets();
    Check.row("first", Scene.got(x, 0), 1, 12, 3, 84 + 85 + 86);
    Check.row("second", Scene.got(x, 1), 0, 99, 2, 693 + 694);
    x.packet(0, 1, 0);
    x.frame(0, false);
    Check.row("third, without data", Scene.got(x, 2), 0, 1, 0, 0);
    Check.row("first, as before", Scene.got(x, 0), 1, 12, 3, 84 + 85 + 86);
  }

  private static void anotherWhatIsZero() {
    TeleStack x = twoPackets();
    for (int what : new int[] {-1, 4, 5, Integer.MIN_VALUE, Integer.MAX_VALUE}) {
      Check.due("got(0, " + what + ")", x.got(0, what), 0);
      Check.due("got(1, " + what + ")", x.got(1, what), 0);
    }
  }

  private static void noSuchPacketIsRefused() {
    for (int k : new int[] {-1, 2, 40, Integer.MIN_VALUE, Integer.MAX_VALUE}) {
      TeleStack x = twoPackets();
      Check.refused("got", x, NoSuchElementException.class, () -> x.got(k, 0));
      Check.refused("got", x, NoSuchElementException.class, () -> x.got(k, 4));
    }
    TeleStack y = new TeleStack();
    Check.refused("got of none", y, NoSuchElementException.class, () -> y.got(0, 9));
  }
}
