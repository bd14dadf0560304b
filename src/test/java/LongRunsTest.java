import java.util.Random;
import java.util.function.LongSupplier;

/**
 * Runs of 512 calls, by fixed seeds, on the program and on the model: every answer is the same. Half
 * of the runs end with all that can be asked.
 */
final class LongRunsTest {
  private static final int RUNS = 6000;
  private static final int CALLS = 512;
  // 11 of the ground, 6 of the craft, 3 of each of 20 up frames, the packets and 4 of each of 40.
  private static final int CALLS_TO_ASK_ALL = 11 + 6 + 3 * 20 + 1 + 4 * 40;

  private final Random random;
  private final TeleStack x = new TeleStack();
  private final Model m = new Model();
  // How a run leans: toward losing, toward wrong arguments, toward the way down.
  private final int loss;
  private final int wrongness;
  private final int down;
  private int lostInARow;

  private LongRunsTest(int seed) {
    random = new Random(seed);
    loss = new int[] {0, 5, 20, 60}[random.nextInt(4)];
    wrongness = new int[] {0, 2, 10}[random.nextInt(3)];
    down = new int[] {0, 20, 50, 95}[random.nextInt(4)];
  }

  public static void main(String[] args) {
    for (int seed = 0; seed < RUNS; seed++) {
      new LongRunsTest(seed).run(seed);
    }
    Check.close();
  }

  private void run(int seed) {
    boolean asksAll = seed % 2 == 1;
    int calls = asksAll ? CALLS - CALLS_TO_ASK_ALL : CALLS;
    for (int i = 0; i < calls; i++) {
      String call = chance(down) ? callDown() : chance(30) ? callAsk() : callUp();
      if (call != null) {
        Check.complain("seed " + seed + ", call " + i + ": " + call);
        return;
      }
    }
    if (asksAll) {
      askAll(seed);
    }
    Check.due("runs", 1, 1);
  }

  private void askAll(int seed) {
    String at = "seed " + seed + ", at the end: ";
    for (int what = 0; what <= 10; what++) {
      Check.due(at + "ground " + what, x.ground(what), m.ground(what));
    }
    for (int what = 0; what <= 5; what++) {
      Check.due(at + "craft " + what, x.craft(what), m.craft(what));
    }
    for (int i = 0; i < 3 * m.ground(9); i++) {
      Check.due(at + "flight " + i, x.flight(i / 3, i % 3), m.flight(i / 3, i % 3));
    }
    Check.due(at + "packets", x.packets(), m.packets());
    for (int i = 0; i < 4 * m.packets(); i++) {
      Check.due(at + "got " + i, x.got(i / 4, i % 4), m.got(i / 4, i % 4));
    }
  }

  private boolean chance(int percent) {
    return random.nextInt(100) < percent;
  }

  /** A number from least to most, or now and then one that may be wrong. */
  private int pick(int least, int most) {
    if (chance(wrongness)) {
      int[] edges = {least - 1, most + 1, Integer.MIN_VALUE, Integer.MAX_VALUE, -1, 0};
      return edges[random.nextInt(edges.length)];
    }
    return most < least ? least : least + random.nextInt(most - least + 1);
  }

  private String callUp() {
    switch (random.nextInt(20)) {
      case 0: {
        int w = pick(1, 4);
        int l = pick(1, chance(50) ? 2 : 9);
        int s = pick(1, chance(70) ? 3 : 20);
        return same("tune", () -> run(() -> x.tune(w, l, s)), () -> run(() -> m.tune(w, l, s)));
      }
      case 1: {
        int n = chance(50) ? m.craft(1) : pick(0, 15);
        return same("number", () -> run(() -> x.number(n)), () -> run(() -> m.number(n)));
      }
      case 2:
      case 3: {
        int how = chance(50) ? 0 : pick(0, 3);
        return same("begin", () -> run(() -> x.begin(how)), () -> run(() -> m.begin(how)));
      }
      case 4:
        if (chance(80)) {
          return same("tick", x::tick, m::tick);
        }
        return same("end", () -> run(x::end), () -> run(m::end));
      case 5:
      case 6:
      case 7: {
        int c = random.nextInt();
        return same("command", () -> bit(x.command(c)), () -> bit(m.command(c)));
      }
      case 8:
      case 9:
      case 10:
        return same("tick", x::tick, m::tick);
      case 11:
      case 12:
      case 13: {
        int k = chance(70) ? 0 : pick(0, m.ground(9) - 1);
        if (chance(loss)) {
          return same("drop", () -> run(() -> x.drop(k)), () -> run(() -> m.drop(k)));
        }
        return same("raise", () -> run(() -> x.raise(k)), () -> run(() -> m.raise(k)));
      }
      case 14:
        return same("take", x::take, m::take);
      case 15:
      case 16:
        return same("report", () -> bit(x.report()), () -> bit(m.report()));
      default: {
        int k = chance(70) ? 0 : pick(0, m.ground(10) - 1);
        boolean lost = chance(loss);
        return same(
            "answer", () -> run(() -> x.answer(k, lost)), () -> run(() -> m.answer(k, lost)));
      }
    }
  }

  private String callDown() {
    int channel = pick(0, 1);
    if (chance(35)) {
      int tag = pick(1, 99);
      int length = pick(0, chance(50) ? 20 : 4);
      return same(
          "packet",
          () -> bit(x.packet(channel, tag, length)),
          () -> bit(m.packet(channel, tag, length)));
    }
    // Now and then 16 in a row are lost, so that the count fits again.
    if (lostInARow == 0 && chance(loss / 10)) {
      lostInARow = 16;
    }
    boolean lost = lostInARow > 0 || chance(loss);
    int of = lostInARow > 0 ? 0 : channel;
    lostInARow = Math.max(0, lostInARow - 1);
    return same("frame", () -> x.frame(of, lost), () -> m.frame(of, lost));
  }

  private String callAsk() {
    switch (random.nextInt(6)) {
      case 0:
      case 1: {
        int what = pick(0, 10);
        return same("ground " + what, () -> x.ground(what), () -> m.ground(what));
      }
      case 2: {
        int what = pick(0, 5);
        return same("craft " + what, () -> x.craft(what), () -> m.craft(what));
      }
      case 3: {
        int k = pick(0, m.ground(9) - 1);
        int what = pick(0, 2);
        return same("flight " + what, () -> x.flight(k, what), () -> m.flight(k, what));
      }
      case 4:
        return same("packets", x::packets, m::packets);
      default: {
        int k = pick(0, m.packets() - 1);
        int what = pick(0, 3);
        return same("got " + what, () -> x.got(k, what), () -> m.got(k, what));
      }
    }
  }

  private static long bit(boolean b) {
    return b ? 1 : 0;
  }

  private static long run(Runnable call) {
    call.run();
    return 0;
  }

  private static String same(String call, LongSupplier program, LongSupplier model) {
    String got = outcome(program);
    String want = outcome(model);
    return got.equals(want) ? null : call + " answered " + got + ", due is " + want;
  }

  private static String outcome(LongSupplier call) {
    try {
      return Long.toString(call.getAsLong());
    } catch (RuntimeException e) {
      return e.getClass().getName();
    }
  }
}
