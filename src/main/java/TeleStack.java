import java.util.NoSuchElementException;

/**
 * A ground station and a spacecraft. Commands go up in numbered frames that are sent again until
 * they are acknowledged; packets go down in frames of a fixed length, from which the ground puts
 * them together again. The face only looks at the arguments and throws: the classes inside do the
 * work, and all their rows are made once, with the object.
 */
public final class TeleStack {
  private static final int IDLE = 0;
  private static final int ACTIVE = 1;
  private static final int RESENDING = 2;
  private static final int HELD = 3;
  private static final int CHECKING = 4;
  private static final int STARTING = 5;

  private static final int COMMAND = 0;
  private static final int UNLOCK = 1;
  private static final int SET = 2;

  private static final int OPEN = 0;
  private static final int WAITING = 1;
  private static final int LOCKED = 2;

  private static final int TOO_MANY_TRIES = 1;
  private static final int CRAFT_LOCKED = 2;
  private static final int AGAIN_FOR_NOTHING = 3;
  private static final int WRONG_NUMBER = 4;
  private static final int NO_ANSWER = 5;
  private static final int WAITING_FOR_NOTHING = 6;

  private static final int NUMBERS = 16;
  private static final int MOST_WINDOW = 4;
  private static final int MOST_LIMIT = 9;
  private static final int MOST_SPAN = 20;
  private static final int MOST_ON_THE_WAY = 20;
  private static final int CHANNELS = 2;
  private static final int MOST_TAG = 99;
  private static final int MOST_LENGTH = 20;
  private static final int FRAME_CELLS = 6;

  private final UpFrames upFrames;
  private final Reports reports;
  private final Ground station;
  private final Craft vessel;
  private final Stream[] streams;
  private final Assembler[] assemblers;
  private final DownFrame downFrame;
  private final Received received;

  public TeleStack() {
    upFrames = new UpFrames();
    reports = new Reports();
    station = new Ground();
    vessel = new Craft();
    streams = new Stream[CHANNELS];
    assemblers = new Assembler[CHANNELS];
    for (int channel = 0; channel < CHANNELS; channel++) {
      streams[channel] = new Stream();
      assemblers[channel] = new Assembler(channel);
    }
    downFrame = new DownFrame();
    received = new Received();
  }

  public void tune(int window, int limit, int span)
      throws IllegalStateException, IllegalArgumentException {
    if (!station.isIdle()) {
      throw new IllegalStateException("the ground is not idle");
    }
    if (!isWithin(window, 1, MOST_WINDOW)
        || !isWithin(limit, 1, MOST_LIMIT)
        || !isWithin(span, 1, MOST_SPAN)) {
      throw new IllegalArgumentException("window, limit or span");
    }
    station.adjust(window, limit, span);
  }

  public void number(int n) throws IllegalStateException, IllegalArgumentException {
    if (!station.isIdle()) {
      throw new IllegalStateException("the ground is not idle");
    }
    if (!isWithin(n, 0, NUMBERS - 1)) {
      throw new IllegalArgumentException("number");
    }
    station.renumber(n);
  }

  public void begin(int how) throws IllegalStateException, IllegalArgumentException {
    if (!station.isIdle()) {
      throw new IllegalStateException("the ground is not idle");
    }
    if (!isWithin(how, 0, 3)) {
      throw new IllegalArgumentException("how");
    }
    station.start(how);
  }

  public void end() throws IllegalStateException {
    if (station.isIdle()) {
      throw new IllegalStateException("the ground is idle");
    }
    station.finish();
  }

  public boolean command(int c) throws IllegalStateException {
    if (!station.takesCommands()) {
      throw new IllegalStateException("the ground takes no commands");
    }
    return station.offer(c);
  }

  public int tick() {
    return station.pass(upFrames);
  }

  public void raise(int k) throws IndexOutOfBoundsException {
    if (!upFrames.has(k)) {
      throw new IndexOutOfBoundsException("no such up frame");
    }
    vessel.receive(upFrames.kind(k), upFrames.numberOf(k), upFrames.commandOf(k));
    upFrames.remove(k);
  }

  public void drop(int k) throws IndexOutOfBoundsException {
    if (!upFrames.has(k)) {
      throw new IndexOutOfBoundsException("no such up frame");
    }
    upFrames.remove(k);
  }

  public int take() throws NoSuchElementException {
    if (vessel.queued() == 0) {
      throw new NoSuchElementException("the queue is empty");
    }
    return vessel.takeFirst();
  }

  public boolean report() {
    return reports.add(vessel);
  }

  public void answer(int k, boolean lost) throws IndexOutOfBoundsException {
    if (!reports.has(k)) {
      throw new IndexOutOfBoundsException("no such report");
    }
    if (!lost) {
      station.hear(reports.expected(k), reports.again(k), reports.gate(k));
    }
    reports.remove(k);
  }

  public boolean packet(int channel, int tag, int length) throws IllegalArgumentException {
    if (!isChannel(channel) || !isWithin(tag, 1, MOST_TAG) || !isWithin(length, 0, MOST_LENGTH)) {
      throw new IllegalArgumentException("channel, tag or length");
    }
    return streams[channel].write(tag, length);
  }

  public int frame(int channel, boolean lost) throws IllegalArgumentException {
    if (!isChannel(channel)) {
      throw new IllegalArgumentException("channel");
    }
    streams[channel].fill(downFrame);
    if (!lost) {
      assemblers[channel].receive(downFrame, received);
    }
    return downFrame.pointer;
  }

  public int ground(int what) throws IndexOutOfBoundsException {
    switch (what) {
      case 9:
        return upFrames.size();
      case 10:
        return reports.size();
      default:
        if (!isWithin(what, 0, 8)) {
          throw new IndexOutOfBoundsException("what");
        }
        return station.tell(what);
    }
  }

  public int craft(int what) throws IndexOutOfBoundsException {
    switch (what) {
      case 4:
        return streams[0].size();
      case 5:
        return streams[1].size();
      default:
        if (!isWithin(what, 0, 3)) {
          throw new IndexOutOfBoundsException("what");
        }
        return vessel.tell(what);
    }
  }

  public int flight(int k, int what) throws IndexOutOfBoundsException {
    if (!upFrames.has(k)) {
      throw new IndexOutOfBoundsException("no such up frame");
    }
    return upFrames.tell(k, what);
  }

  public int packets() {
    return received.size();
  }

  public int got(int k, int what) throws NoSuchElementException {
    if (!received.has(k)) {
      throw new NoSuchElementException("no such packet");
    }
    return received.tell(k, what);
  }

  private static boolean isWithin(int value, int least, int most) {
    return value >= least && value <= most;
  }

  private static boolean isChannel(int channel) {
    return isWithin(channel, 0, CHANNELS - 1);
  }

  private static int following(int number) {
    return (number + 1) % NUMBERS;
  }

  private static int distance(int from, int to) {
    return Math.floorMod(to - from, NUMBERS);
  }

  /** The ground's side of the way up. */
  private static final class Ground {
    private final Unacknowledged pending = new Unacknowledged();
    private int mode = IDLE;
    private int next;
    private int oldest;
    private boolean slotFull;
    private int slot;
    private int tries;
    private int timer;
    private int reason;
    private int window = 3;
    private int limit = 4;
    private int span = 5;
    private int startKind;
    private boolean startDue;

    boolean isIdle() {
      return mode == IDLE;
    }

    boolean takesCommands() {
      return isSending() || mode == HELD;
    }

    void adjust(int newWindow, int newLimit, int newSpan) {
      window = newWindow;
      limit = newLimit;
      span = newSpan;
    }

    void renumber(int n) {
      next = n;
      oldest = n;
    }

    void start(int how) {
      tries = 1;
      reason = 0;
      switch (how) {
        case 0:
          mode = ACTIVE;
          break;
        case 1:
          mode = CHECKING;
          timer = span;
          break;
        default:
          mode = STARTING;
          startKind = how == 2 ? UNLOCK : SET;
          startDue = true;
          break;
      }
    }

    void finish() {
      mode = IDLE;
      pending.clear();
      slotFull = false;
      oldest = next;
      timer = 0;
    }

    boolean offer(int c) {
      if (slotFull) {
        return false;
      }
      slot = c;
      slotFull = true;
      return true;
    }

    int pass(UpFrames out) {
      if (timer > 0) {
        timer--;
        if (timer == 0) {
          runOut();
        }
      }
      if (mode == STARTING && startDue) {
        return sendStart(out);
      }
      return isSending() ? sendCommand(out) : -1;
    }

    void hear(int expected, boolean again, int gate) {
      if (mode == IDLE) {
        return;
      }
      if (mode == STARTING) {
        hearAtStart(expected, again, gate);
        return;
      }
      int acknowledged = distance(oldest, expected);
      if (gate == LOCKED) {
        alarm(CRAFT_LOCKED);
      } else if (acknowledged > pending.size()) {
        alarm(WRONG_NUMBER);
      } else {
        acknowledge(acknowledged, expected);
        if (pending.size() == 0) {
          hearWithNonePending(again, gate);
        } else {
          hearWithSomePending(again, gate, acknowledged > 0);
        }
      }
    }

    int tell(int what) {
      switch (what) {
        case 0:
          return mode;
        case 1:
          return next;
        case 2:
          return oldest;
        case 3:
          return pending.size();
        case 4:
          return pending.countMarked();
        case 5:
          return slotFull ? 1 : 0;
        case 6:
          return tries;
        case 7:
          return timer;
        default:
          return reason;
      }
    }

    private boolean isSending() {
      return mode == ACTIVE || mode == RESENDING;
    }

    private void alarm(int why) {
      reason = why;
      finish();
    }

    private void tryAgain() {
      tries++;
      pending.markAll();
    }

    private void resend() {
      if (tries >= limit) {
        alarm(TOO_MANY_TRIES);
      } else {
        tryAgain();
        mode = RESENDING;
      }
    }

    private void runOut() {
      if (mode == CHECKING || tries >= limit) {
        alarm(NO_ANSWER);
      } else if (mode == STARTING) {
        tries++;
        startDue = true;
      } else if (isSending()) {
        // Not resend(): an ACTIVE ground stays ACTIVE when its timer runs out.
        tryAgain();
      }
    }

    private int sendStart(UpFrames out) {
      startDue = false;
      return send(out, startKind, startKind == SET ? next : 0, 0);
    }

    private int sendCommand(UpFrames out) {
      int k = pending.firstMarked();
      if (k >= 0) {
        pending.unmark(k);
        return send(out, COMMAND, pending.numberOf(k), pending.commandOf(k));
      }
      if (slotFull && pending.size() < window) {
        return sendSlot(out);
      }
      return -1;
    }

    private int sendSlot(UpFrames out) {
      int number = next;
      pending.add(number, slot);
      next = following(next);
      slotFull = false;
      if (pending.size() == 1) {
        tries = 1;
      }
      return send(out, COMMAND, number, slot);
    }

    private int send(UpFrames out, int kind, int number, int command) {
      out.add(kind, number, command);
      // The timer starts even if the frame was lost for want of room: the ground can't know.
      timer = span;
      return kind;
    }

    private void hearAtStart(int expected, boolean again, int gate) {
      if (gate == OPEN && !again && expected == next) {
        mode = ACTIVE;
        tries = 1;
        timer = 0;
      }
    }

    private void acknowledge(int many, int expected) {
      pending.removeFirst(many);
      oldest = expected;
      if (many > 0) {
        tries = 1;
      }
    }

    private void hearWithNonePending(boolean again, int gate) {
      if (again) {
        alarm(AGAIN_FOR_NOTHING);
      } else if (gate == WAITING) {
        alarm(WAITING_FOR_NOTHING);
      } else {
        mode = ACTIVE;
        timer = 0;
      }
    }

    private void hearWithSomePending(boolean again, int gate, boolean progress) {
      if (!again && gate == WAITING) {
        alarm(WAITING_FOR_NOTHING);
      } else if (!again) {
        mode = ACTIVE;
      } else if (gate == WAITING && limit == 1 && progress) {
        alarm(TOO_MANY_TRIES);
      } else if (gate == WAITING) {
        mode = HELD;
      } else if (mode != RESENDING || progress) {
        resend();
      }
    }
  }

  /** The frames that the ground has sent and that no report has acknowledged, oldest first. */
  private static final class Unacknowledged {
    private final int[] numbers = new int[MOST_WINDOW];
    private final int[] commands = new int[MOST_WINDOW];
    private final boolean[] marks = new boolean[MOST_WINDOW];
    private int size;

    int size() {
      return size;
    }

    int numberOf(int k) {
      return numbers[k];
    }

    int commandOf(int k) {
      return commands[k];
    }

    void add(int number, int command) {
      if (size < MOST_WINDOW) {
        numbers[size] = number;
        commands[size] = command;
        marks[size] = false;
        size++;
      }
    }

    void removeFirst(int many) {
      for (int i = many; i < size; i++) {
        numbers[i - many] = numbers[i];
        commands[i - many] = commands[i];
        marks[i - many] = marks[i];
      }
      size -= many;
    }

    void clear() {
      size = 0;
    }

    void markAll() {
      for (int i = 0; i < size; i++) {
        marks[i] = true;
      }
    }

    void unmark(int k) {
      marks[k] = false;
    }

    int firstMarked() {
      for (int i = 0; i < size; i++) {
        if (marks[i]) {
          return i;
        }
      }
      return -1;
    }

    int countMarked() {
      int many = 0;
      for (int i = 0; i < size; i++) {
        if (marks[i]) {
          many++;
        }
      }
      return many;
    }
  }

  /** The up frames on their way, the one that was sent first in front. */
  private static final class UpFrames {
    private final int[] kinds = new int[MOST_ON_THE_WAY];
    private final int[] numbers = new int[MOST_ON_THE_WAY];
    private final int[] commands = new int[MOST_ON_THE_WAY];
    private int size;

    int size() {
      return size;
    }

    boolean has(int k) {
      return k >= 0 && k < size;
    }

    int kind(int k) {
      return kinds[k];
    }

    int numberOf(int k) {
      return numbers[k];
    }

    int commandOf(int k) {
      return commands[k];
    }

    int tell(int k, int what) {
      switch (what) {
        case 0:
          return kinds[k];
        case 1:
          return numbers[k];
        case 2:
          return commands[k];
        default:
          return 0;
      }
    }

    void add(int kind, int number, int command) {
      if (size < MOST_ON_THE_WAY) {
        kinds[size] = kind;
        numbers[size] = number;
        commands[size] = command;
        size++;
      }
    }

    void remove(int k) {
      for (int i = k + 1; i < size; i++) {
        kinds[i - 1] = kinds[i];
        numbers[i - 1] = numbers[i];
        commands[i - 1] = commands[i];
      }
      size--;
    }
  }

  /** The spacecraft's side of the way up. */
  private static final class Craft {
    private static final int QUEUE_ROOM = 3;
    private static final int MOST_AHEAD = 4;
    private static final int MOST_ASTRAY = 10;

    private final int[] queue = new int[QUEUE_ROOM];
    private int queued;
    private int gate = OPEN;
    private int expected;
    private boolean again;

    int queued() {
      return queued;
    }

    int takeFirst() {
      int first = queue[0];
      for (int i = 1; i < queued; i++) {
        queue[i - 1] = queue[i];
      }
      queued--;
      if (gate == WAITING) {
        gate = OPEN;
      }
      return first;
    }

    void receive(int kind, int number, int command) {
      if (kind == COMMAND) {
        receiveCommand(distance(expected, number), command);
      } else if (kind == UNLOCK) {
        reopen();
      } else if (gate != LOCKED) {
        expected = number;
        reopen();
      }
    }

    int tell(int what) {
      switch (what) {
        case 0:
          return gate;
        case 1:
          return expected;
        case 2:
          return again ? 1 : 0;
        default:
          return queued;
      }
    }

    private void reopen() {
      gate = OPEN;
      again = false;
    }

    private void receiveCommand(int ahead, int command) {
      if (ahead > MOST_AHEAD) {
        if (ahead <= MOST_ASTRAY) {
          gate = LOCKED;
        }
      } else if (gate == OPEN) {
        if (ahead > 0) {
          again = true;
        } else {
          receiveExpected(command);
        }
      }
    }

    private void receiveExpected(int command) {
      if (queued < QUEUE_ROOM) {
        queue[queued] = command;
        queued++;
        expected = following(expected);
        again = false;
      } else {
        again = true;
        gate = WAITING;
      }
    }
  }

  /** The reports on their way, the oldest in front. */
  private static final class Reports {
    private final int[] expected = new int[MOST_ON_THE_WAY];
    private final boolean[] again = new boolean[MOST_ON_THE_WAY];
    private final int[] gates = new int[MOST_ON_THE_WAY];
    private int size;

    int size() {
      return size;
    }

    boolean has(int k) {
      return k >= 0 && k < size;
    }

    int expected(int k) {
      return expected[k];
    }

    boolean again(int k) {
      return again[k];
    }

    int gate(int k) {
      return gates[k];
    }

    boolean add(Craft from) {
      if (size >= MOST_ON_THE_WAY) {
        return false;
      }
      expected[size] = from.expected;
      again[size] = from.again;
      gates[size] = from.gate;
      size++;
      return true;
    }

    void remove(int k) {
      for (int i = k + 1; i < size; i++) {
        expected[i - 1] = expected[i];
        again[i - 1] = again[i];
        gates[i - 1] = gates[i];
      }
      size--;
    }
  }

  /** A channel's cells on the spacecraft, and the count of its next frame. */
  private static final class Stream {
    private static final int ROOM = 60;
    private static final int TAG_FACTOR = 7;

    private final int[] cells = new int[ROOM];
    // A cell of data may have any tag's value, so tags are known by their place.
    private final boolean[] tags = new boolean[ROOM];
    private int size;
    private int count;

    int size() {
      return size;
    }

    boolean write(int tag, int length) {
      if (size + 2 + length > ROOM) {
        return false;
      }
      writeHead(tag, length);
      for (int i = 0; i < length; i++) {
        put(tag * TAG_FACTOR + i, false);
      }
      return true;
    }

    void fill(DownFrame frame) {
      if (size < FRAME_CELLS) {
        writeIdle();
      }
      frame.count = count;
      frame.pointer = FRAME_CELLS;
      for (int i = FRAME_CELLS - 1; i >= 0; i--) {
        frame.cells[i] = cells[i];
        if (tags[i]) {
          frame.pointer = i;
        }
      }
      count = following(count);
      removeFrame();
    }

    private void writeIdle() {
      int length = Math.max(0, FRAME_CELLS - 2 - size);
      writeHead(0, length);
      for (int i = 0; i < length; i++) {
        put(0, false);
      }
    }

    private void writeHead(int tag, int length) {
      put(tag, true);
      put(length, false);
    }

    private void put(int cell, boolean isTag) {
      if (size < ROOM) {
        cells[size] = cell;
        tags[size] = isTag;
        size++;
      }
    }

    private void removeFrame() {
      for (int i = FRAME_CELLS; i < size; i++) {
        cells[i - FRAME_CELLS] = cells[i];
        tags[i - FRAME_CELLS] = tags[i];
      }
      size -= FRAME_CELLS;
    }
  }

  /** The one down frame that is made and read within a call. */
  private static final class DownFrame {
    private final int[] cells = new int[FRAME_CELLS];
    private int count;
    private int pointer;
  }

  /**
   * The ground's side of a channel. Of a packet's beginning it keeps what the packet will be told
   * by, not its cells: after 16 lost frames the count fits again, a cell of data may be read as a
   * length, and the beginning grows far beyond any packet that was sent.
   */
  private static final class Assembler {
    private final int channel;
    private int awaited;
    private boolean inStep = true;
    private int cellsRead;
    private int tag;
    private int length;
    private int sum;

    Assembler(int channel) {
      this.channel = channel;
    }

    void receive(DownFrame frame, Received received) {
      int from = 0;
      if (!inStep || frame.count != awaited) {
        cellsRead = 0;
        from = frame.pointer;
        inStep = from < FRAME_CELLS;
      }
      for (int i = from; i < FRAME_CELLS; i++) {
        read(frame.cells[i], received);
      }
      awaited = following(frame.count);
    }

    private void read(int cell, Received received) {
      if (cellsRead == 0) {
        tag = cell;
        sum = 0;
      } else if (cellsRead == 1) {
        length = cell;
      } else {
        sum += cell;
      }
      cellsRead++;
      if (cellsRead >= 2 && cellsRead - 2 == length) {
        cellsRead = 0;
        if (tag != 0) {
          received.add(channel, tag, length, sum);
        }
      }
    }
  }

  /** The packets that the ground has got, of both channels. */
  private static final class Received {
    private static final int ROOM = 40;

    private final int[] channels = new int[ROOM];
    private final int[] tags = new int[ROOM];
    private final int[] lengths = new int[ROOM];
    private final int[] sums = new int[ROOM];
    private int size;

    int size() {
      return size;
    }

    boolean has(int k) {
      return k >= 0 && k < size;
    }

    int tell(int k, int what) {
      switch (what) {
        case 0:
          return channels[k];
        case 1:
          return tags[k];
        case 2:
          return lengths[k];
        case 3:
          return sums[k];
        default:
          return 0;
      }
    }

    void add(int channel, int tag, int length, int sum) {
      if (size < ROOM) {
        channels[size] = channel;
        tags[size] = tag;
        lengths[size] = length;
        sums[size] = sum;
        size++;
      }
    }
  }
}
