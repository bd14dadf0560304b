import java.util.ArrayList;
import java.util.List;
import java.util.NoSuchElementException;

/**
 * The document once more, sentence by sentence and with the whole Java library, so that long runs
 * of the program can be held against it. It shares no code and no shape with the program.
 */
final class Model {
  enum Mode { IDLE, ACTIVE, RESENDING, HELD, CHECKING, STARTING }

  enum Gate { OPEN, WAITING, LOCKED }

  enum Kind { COMMAND, UNLOCK, SET }

  record Up(Kind kind, int number, int command) {}

  record Told(int expected, boolean again, boolean locked, boolean waiting) {}

  record Cell(int value, boolean tag) {}

  record Packet(int channel, int tag, int length, int sum) {}

  static final class Sent {
    final int number;
    final int command;
    boolean marked = false;

    Sent(int number, int command) {
      this.number = number;
      this.command = command;
    }
  }

  static final class Channel {
    final List<Cell> stream = new ArrayList<>();
    int count = 0;
    int awaited = 0;
    boolean inStep = true;
    final List<Integer> beginning = new ArrayList<>();
  }

  private Mode mode = Mode.IDLE;
  private int next = 0;
  private int oldest = 0;
  private final List<Sent> unacknowledged = new ArrayList<>();
  private Integer slot = null;
  private int tries = 0;
  private int timer = 0;
  private int reason = 0;
  private int window = 3;
  private int limit = 4;
  private int span = 5;
  private Up startFrame = null;
  private boolean toBeSent = false;
  private final List<Up> ups = new ArrayList<>();

  private Gate gate = Gate.OPEN;
  private int expected = 0;
  private boolean again = false;
  private final List<Integer> queue = new ArrayList<>();
  private final List<Told> reports = new ArrayList<>();

  private final List<Channel> channels = List.of(new Channel(), new Channel());
  private final List<Packet> packets = new ArrayList<>();

  void tune(int newWindow, int newLimit, int newSpan) {
    mustBeIdle();
    if (newWindow < 1 || newWindow > 4) throw new IllegalArgumentException();
    if (newLimit < 1 || newLimit > 9) throw new IllegalArgumentException();
    if (newSpan < 1 || newSpan > 20) throw new IllegalArgumentException();
    window = newWindow;
    limit = newLimit;
    span = newSpan;
  }

  void number(int n) {
    mustBeIdle();
    if (n < 0 || n > 15) throw new IllegalArgumentException();
    next = oldest = n;
  }

  void begin(int how) {
    mustBeIdle();
    if (how < 0 || how > 3) throw new IllegalArgumentException();
    if (how == 0) mode = Mode.ACTIVE;
    if (how == 1) mode = Mode.CHECKING;
    if (how == 1) timer = span;
    if (how >= 2) mode = Mode.STARTING;
    if (how == 2) startFrame = new Up(Kind.UNLOCK, 0, 0);
    if (how == 3) startFrame = new Up(Kind.SET, next, 0);
    toBeSent = how >= 2;
    tries = 1;
    reason = 0;
  }

  void end() {
    if (mode == Mode.IDLE) throw new IllegalStateException();
    ends();
  }

  boolean command(int c) {
    if (mode != Mode.ACTIVE && mode != Mode.RESENDING && mode != Mode.HELD) {
      throw new IllegalStateException();
    }
    if (slot != null) return false;
    slot = c;
    return true;
  }

  int tick() {
    if (timer > 0 && --timer == 0) {
      switch (mode) {
        case ACTIVE -> {
          if (tries < limit) {
            resend();
            mode = Mode.ACTIVE;
          } else {
            alarm(5);
          }
        }
        case RESENDING -> {
          if (tries < limit) resend(); else alarm(5);
        }
        case HELD -> {
          if (tries >= limit) alarm(5);
        }
        case CHECKING -> alarm(5);
        case STARTING -> {
          if (tries < limit) {
            tries += 1;
            toBeSent = true;
          } else {
            alarm(5);
          }
        }
        default -> { }
      }
    }
    Up up = toSend();
    if (up == null) return -1;
    if (ups.size() < 20) ups.add(up);
    timer = span;
    return up.kind().ordinal();
  }

  void raise(int k) {
    if (k < 0 || k >= ups.size()) throw new IndexOutOfBoundsException();
    Up up = ups.remove(k);
    switch (up.kind()) {
      case COMMAND -> {
        int d = (up.number() - expected + 16) % 16;
        if (d == 0 && gate == Gate.OPEN && queue.size() < 3) {
          queue.add(up.command());
          expected = (expected + 1) % 16;
          again = false;
        } else if (d == 0 && gate == Gate.OPEN) {
          again = true;
          gate = Gate.WAITING;
        } else if (d >= 1 && d <= 4 && gate == Gate.OPEN) {
          again = true;
        } else if (d >= 5 && d <= 10) {
          gate = Gate.LOCKED;
        }
      }
      case UNLOCK -> {
        gate = Gate.OPEN;
        again = false;
      }
      case SET -> {
        if (gate != Gate.LOCKED) {
          expected = up.number();
          gate = Gate.OPEN;
          again = false;
        }
      }
    }
  }

  void drop(int k) {
    if (k < 0 || k >= ups.size()) throw new IndexOutOfBoundsException();
    ups.remove(k);
  }

  int take() {
    if (queue.isEmpty()) throw new NoSuchElementException();
    if (gate == Gate.WAITING) gate = Gate.OPEN;
    return queue.remove(0);
  }

  boolean report() {
    if (reports.size() == 20) return false;
    return reports.add(new Told(expected, again, gate == Gate.LOCKED, gate == Gate.WAITING));
  }

  void answer(int k, boolean lost) {
    if (k < 0 || k >= reports.size()) throw new IndexOutOfBoundsException();
    Told told = reports.remove(k);
    if (!lost) comes(told);
  }

  boolean packet(int channel, int tag, int length) {
    if (channel != 0 && channel != 1) throw new IllegalArgumentException();
    if (tag < 1 || tag > 99 || length < 0 || length > 20) throw new IllegalArgumentException();
    List<Cell> stream = channels.get(channel).stream;
    List<Cell> written = new ArrayList<>(stream);
    written.add(new Cell(tag, true));
    written.add(new Cell(length, false));
    for (int i = 0; i < length; i++) written.add(new Cell(tag * 7 + i, false));
    if (written.size() > 60) return false;
    stream.clear();
    stream.addAll(written);
    return true;
  }

  int frame(int channel, boolean lost) {
    if (channel != 0 && channel != 1) throw new IllegalArgumentException();
    Channel c = channels.get(channel);
    if (c.stream.size() < 6) {
      int cells = c.stream.size() == 5 ? 0 : 6 - c.stream.size() - 2;
      c.stream.add(new Cell(0, true));
      c.stream.add(new Cell(cells, false));
      for (int i = 0; i < cells; i++) c.stream.add(new Cell(0, false));
    }
    List<Cell> cells = new ArrayList<>();
    for (int i = 0; i < 6; i++) cells.add(c.stream.remove(0));
    int pointer = 0;
    while (pointer < 6 && !cells.get(pointer).tag()) pointer++;
    int count = c.count;
    c.count = (c.count + 1) % 16;
    if (!lost) comes(channel, count, pointer, cells);
    return pointer;
  }

  int ground(int what) {
    return switch (what) {
      case 0 -> mode.ordinal();
      case 1 -> next;
      case 2 -> oldest;
      case 3 -> unacknowledged.size();
      case 4 -> (int) unacknowledged.stream().filter(s -> s.marked).count();
      case 5 -> slot == null ? 0 : 1;
      case 6 -> tries;
      case 7 -> timer;
      case 8 -> reason;
      case 9 -> ups.size();
      case 10 -> reports.size();
      default -> throw new IndexOutOfBoundsException();
    };
  }

  int craft(int what) {
    return switch (what) {
      case 0 -> gate.ordinal();
      case 1 -> expected;
      case 2 -> again ? 1 : 0;
      case 3 -> queue.size();
      case 4, 5 -> channels.get(what - 4).stream.size();
      default -> throw new IndexOutOfBoundsException();
    };
  }

  int flight(int k, int what) {
    if (k < 0 || k >= ups.size()) throw new IndexOutOfBoundsException();
    Up up = ups.get(k);
    return switch (what) {
      case 0 -> up.kind().ordinal();
      case 1 -> up.number();
      case 2 -> up.command();
      default -> 0;
    };
  }

  int packets() {
    return packets.size();
  }

  int got(int k, int what) {
    if (k < 0 || k >= packets.size()) throw new NoSuchElementException();
    Packet p = packets.get(k);
    return switch (what) {
      case 0 -> p.channel();
      case 1 -> p.tag();
      case 2 -> p.length();
      case 3 -> p.sum();
      default -> 0;
    };
  }

  private void mustBeIdle() {
    if (mode != Mode.IDLE) throw new IllegalStateException();
  }

  private void ends() {
    mode = Mode.IDLE;
    unacknowledged.clear();
    slot = null;
    oldest = next;
    timer = 0;
  }

  private void alarm(int why) {
    reason = why;
    ends();
  }

  private void resend() {
    if (tries >= limit) {
      alarm(1);
      return;
    }
    tries += 1;
    for (Sent s : unacknowledged) s.marked = true;
    mode = Mode.RESENDING;
  }

  private Up toSend() {
    if (mode == Mode.STARTING && toBeSent) {
      toBeSent = false;
      return startFrame;
    }
    if (mode != Mode.ACTIVE && mode != Mode.RESENDING) return null;
    for (Sent s : unacknowledged) {
      if (s.marked) {
        s.marked = false;
        return new Up(Kind.COMMAND, s.number, s.command);
      }
    }
    if (slot == null || unacknowledged.size() >= window) return null;
    Up up = new Up(Kind.COMMAND, next, slot);
    unacknowledged.add(new Sent(next, slot));
    next = (next + 1) % 16;
    slot = null;
    if (unacknowledged.size() == 1) tries = 1;
    return up;
  }

  private void comes(Told told) {
    if (mode == Mode.IDLE) return;
    if (mode == Mode.STARTING) {
      if (!told.locked() && !told.waiting() && !told.again() && told.expected() == next) {
        mode = Mode.ACTIVE;
        tries = 1;
        timer = 0;
      }
      return;
    }
    if (told.locked()) {
      alarm(2);
      return;
    }
    int some = (told.expected() - oldest + 16) % 16;
    if (some > unacknowledged.size()) {
      alarm(4);
      return;
    }
    for (int i = 0; i < some; i++) unacknowledged.remove(0);
    oldest = told.expected();
    if (some > 0) tries = 1;
    if (unacknowledged.isEmpty()) {
      if (told.again()) {
        alarm(3);
      } else if (told.waiting()) {
        alarm(6);
      } else {
        mode = Mode.ACTIVE;
        timer = 0;
      }
      return;
    }
    if (!told.again()) {
      if (told.waiting()) alarm(6); else mode = Mode.ACTIVE;
    } else if (told.waiting()) {
      if (limit == 1 && some > 0) alarm(1); else mode = Mode.HELD;
    } else {
      boolean nothing = mode == Mode.RESENDING && some == 0;
      if (!nothing) resend();
    }
  }

  private void comes(int channel, int count, int pointer, List<Cell> cells) {
    Channel c = channels.get(channel);
    if (c.inStep && count == c.awaited) {
      read(channel, cells);
    } else {
      c.beginning.clear();
      c.inStep = pointer != 6;
      if (pointer != 6) read(channel, cells.subList(pointer, 6));
    }
    c.awaited = (count + 1) % 16;
  }

  private void read(int channel, List<Cell> cells) {
    List<Integer> b = channels.get(channel).beginning;
    for (Cell cell : cells) {
      b.add(cell.value());
      if (b.size() >= 2 && b.size() == 2 + b.get(1)) {
        int sum = b.subList(2, b.size()).stream().mapToInt(v -> v).sum();
        if (b.get(0) != 0 && packets.size() < 40) {
          packets.add(new Packet(channel, b.get(0), b.get(1), sum));
        }
        b.clear();
      }
    }
  }
}
