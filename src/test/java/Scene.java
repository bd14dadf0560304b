import java.util.Arrays;

/** Short ways into the states that the tests begin from. */
final class Scene {
  static final int IDLE = 0;
  static final int ACTIVE = 1;
  static final int RESENDING = 2;
  static final int HELD = 3;
  static final int CHECKING = 4;
  static final int STARTING = 5;

  static final int OPEN = 0;
  static final int WAITING = 1;
  static final int LOCKED = 2;

  private Scene() {}

  /** ground(0) to ground(8): mode, NEXT, OLDEST, unacknowledged, marked, slot, TRIES, timer, reason. */
  static int[] ground(TeleStack x) {
    int[] row = new int[9];
    for (int i = 0; i < row.length; i++) {
      row[i] = x.ground(i);
    }
    return row;
  }

  /** craft(0) to craft(3): gate, EXPECTED, AGAIN, commands in the queue. */
  static int[] craft(TeleStack x) {
    int[] row = new int[4];
    for (int i = 0; i < row.length; i++) {
      row[i] = x.craft(i);
    }
    return row;
  }

  static int[] flight(TeleStack x, int k) {
    return new int[] {x.flight(k, 0), x.flight(k, 1), x.flight(k, 2)};
  }

  static int[] got(TeleStack x, int k) {
    return new int[] {x.got(k, 0), x.got(k, 1), x.got(k, 2), x.got(k, 3)};
  }

  static String text(int[] row) {
    return Arrays.toString(row);
  }

  static String allOf(TeleStack x) {
    StringBuilder text = new StringBuilder();
    text.append(text(ground(x))).append(text(craft(x)));
    text.append(x.craft(4)).append(' ').append(x.craft(5)).append(' ');
    text.append(x.ground(9)).append(' ').append(x.ground(10)).append(' ').append(x.packets());
    if (x.ground(9) > 0) {
      text.append(text(flight(x, 0)));
      text.append(text(flight(x, x.ground(9) - 1)));
    }
    if (x.packets() > 0) {
      text.append(text(got(x, x.packets() - 1)));
    }
    return text.toString();
  }

  /** The ground takes and sends these, a tick each. */
  static void send(TeleStack x, int... commands) {
    for (int c : commands) {
      Check.due("command(" + c + ")", x.command(c), true);
      Check.due("tick() with a command to send", x.tick(), 0);
    }
  }

  static void ticks(TeleStack x, int many) {
    for (int i = 0; i < many; i++) {
      x.tick();
    }
  }

  /** The spacecraft's state comes to the ground at once. */
  static void hear(TeleStack x) {
    x.report();
    x.answer(x.ground(10) - 1, false);
  }

  /** An idle ground puts a COMMAND frame with this number on its way, and is idle again. */
  static void fly(TeleStack x, int number, int command) {
    x.number(number);
    x.begin(0);
    x.command(command);
    x.tick();
    x.end();
  }

  static void flyUnlock(TeleStack x) {
    x.begin(2);
    x.tick();
    x.end();
  }

  static void flySet(TeleStack x, int number) {
    x.number(number);
    x.begin(3);
    x.tick();
    x.end();
  }

  static void comeIn(TeleStack x, int number, int command) {
    fly(x, number, command);
    x.raise(x.ground(9) - 1);
  }

  static void comeUnlock(TeleStack x) {
    flyUnlock(x);
    x.raise(x.ground(9) - 1);
  }

  static void comeSet(TeleStack x, int number) {
    flySet(x, number);
    x.raise(x.ground(9) - 1);
  }

  /** A spacecraft that expects this number, with this gate and AGAIN; WAITING is always AGAIN. */
  static TeleStack craftAt(int expected, int gate, boolean again) {
    TeleStack x = new TeleStack();
    if (gate == WAITING) {
      comeIn(x, 0, 901);
      comeIn(x, 1, 902);
      comeIn(x, 2, 903);
    }
    comeSet(x, expected);
    if (gate == WAITING) {
      comeIn(x, expected, 904);
    } else if (again) {
      comeIn(x, (expected + 1) % 16, 905);
    }
    if (gate == LOCKED) {
      comeIn(x, (expected + 7) % 16, 906);
    }
    x.number(0);
    Check.row("the craft", craft(x), gate, expected, again ? 1 : 0, gate == WAITING ? 3 : 0);
    return x;
  }

  /** A ground in this mode, by the shortest way. */
  static TeleStack groundIn(int mode) {
    TeleStack x = new TeleStack();
    switch (mode) {
      case ACTIVE:
        x.begin(0);
        break;
      case RESENDING:
        x = craftAt(0, OPEN, true);
        x.begin(0);
        send(x, 1);
        hear(x);
        break;
      case HELD:
        x = craftAt(0, WAITING, true);
        x.begin(0);
        send(x, 1);
        hear(x);
        break;
      case CHECKING:
        x.begin(1);
        break;
      case STARTING:
        x.begin(3);
        break;
      default:
        break;
    }
    Check.due("ground(0)", x.ground(0), mode);
    return x;
  }

  /**
   * A ground in this mode with something in every place that a call could spoil: some frames and
   * reports on their way, commands in the queue, a beginning on both channels, cells in
   * both streams, a packet got; and, if the mode has them, frames unacknowledged and a full slot.
   */
  static TeleStack busy(int mode) {
    TeleStack x = new TeleStack();
    x.tune(3, 3, 4);
    x.packet(0, 11, 9);
    x.packet(1, 22, 3);
    x.packet(1, 23, 12);
    x.frame(0, false);
    x.frame(1, false);
    comeIn(x, 0, 501);
    comeIn(x, 1, 502);
    x.report();
    comeIn(x, 4, 503);
    x.report();
    flyUnlock(x);
    flySet(x, 2);
    fly(x, 2, 504);
    x.number(2);
    switch (mode) {
      case IDLE:
        x.begin(1);
        ticks(x, 4);
        break;
      case ACTIVE:
        x.begin(0);
        send(x, 601, 602);
        ticks(x, 4);
        x.command(603);
        break;
      case RESENDING:
        x.begin(0);
        send(x, 601, 602);
        hear(x);
        x.tick();
        x.command(603);
        break;
      case HELD:
        x.raise(2);
        fly(x, 3, 505);
        x.raise(2);
        x.number(3);
        x.begin(0);
        send(x, 601, 602);
        hear(x);
        x.command(603);
        break;
      case CHECKING:
        x.begin(1);
        x.tick();
        break;
      default:
        x.begin(3);
        break;
    }
    Check.due("ground(0) of a busy one", x.ground(0), mode);
    return x;
  }

  /** So many COMMAND frames on their way, with the numbers 0, 1, 2 .. and the commands 1000 .. */
  static TeleStack upFrames(int many) {
    TeleStack x = new TeleStack();
    x.tune(4, 9, 20);
    for (int i = 0; i < many; i++) {
      fly(x, i % 16, 1000 + i);
    }
    return x;
  }

  static TeleStack reports(int many) {
    TeleStack x = new TeleStack();
    for (int i = 0; i < many; i++) {
      Check.due("report()", x.report(), true);
    }
    return x;
  }

  /** A channel whose stream has just so many cells, and which the ground follows in step. */
  static TeleStack cells(int channel, int many) {
    TeleStack x = new TeleStack();
    int left = many;
    if (many == 1) {
      x.packet(channel, 90, 5);
      x.frame(channel, false);
      left = 0;
    }
    while (left > 0) {
      // Never one cell alone is left over: a packet has two at least.
      int now = left <= 22 ? left : Math.min(22, left - 2);
      Check.due("packet()", x.packet(channel, 91, now - 2), true);
      left -= now;
    }
    Check.due("cells of channel " + channel, x.craft(4 + channel), many);
    return x;
  }

  /** So many packets got, with the tags 1, 2, 3 .. and four cells of data, on channels 0, 1, 0 .. */
  static TeleStack packetsGot(int many) {
    TeleStack x = new TeleStack();
    for (int i = 0; i < many; i++) {
      x.packet(i % 2, 1 + i, 4);
      x.frame(i % 2, false);
    }
    Check.due("packets()", x.packets(), many);
    return x;
  }
}
