import java.util.NoSuchElementException;

/** Packs a program for a small machine so that it opens itself, and runs the machine. */
public final class SelfOpener {
  private static final int SPACE = 256;
  private static final int BYTE = 255;
  private static final int MOST = 160;
  private static final int MOST_AT_ONCE = 8;
  private static final int MOST_STEPS = 4000;

  private final Packing packing;
  private final Program program;
  private final Machine machine;

  public SelfOpener() {
    packing = new Packing();
    program = packing.program;
    machine = new Machine();
  }

  public boolean put(long w, int n) {
    if (n < 1 || n > MOST_AT_ONCE || !program.hasRoom(n)) {
      return false;
    }
    long rest = w;
    for (int i = 0; i < n; i++) {
      program.append((int) (rest & BYTE));
      rest >>>= 8;
    }
    return true;
  }

  public boolean again(int d, int n) {
    if (d < 1 || d > program.size || n < 0 || !program.hasRoom(n)) {
      return false;
    }
    for (int i = 0; i < n; i++) {
      program.append(program.bytes[program.size - d]);
    }
    return true;
  }

  public void change(int i, int v) throws IndexOutOfBoundsException, IllegalArgumentException {
    if (i < 0 || i >= program.size) {
      throw new IndexOutOfBoundsException();
    }
    if (!isByte(v)) {
      throw new IllegalArgumentException();
    }
    program.set(i, v);
  }

  public void cut(int n) throws IllegalArgumentException {
    if (n < 0 || n > program.size) {
      throw new IllegalArgumentException();
    }
    program.shorten(n);
  }

  public void place(int origin, int entry) throws IllegalArgumentException {
    if (!isByte(origin) || !isByte(entry)) {
      throw new IllegalArgumentException();
    }
    program.origin = origin;
    program.entry = entry;
  }

  public int size() {
    return program.size;
  }

  public int packed() {
    packing.refresh();
    return packing.length;
  }

  public int stream(int i) throws IndexOutOfBoundsException {
    packing.refresh();
    if (i < 0 || i >= packing.length) {
      throw new IndexOutOfBoundsException();
    }
    return packing.stream[i];
  }

  public int gap() {
    packing.refresh();
    return packing.gap;
  }

  public int unpack() throws NoSuchElementException, IllegalStateException, IllegalArgumentException, UnsupportedOperationException {
    program.openAsStream();
    return program.size;
  }

  public void load() throws IllegalStateException {
    if (!program.fits()) {
      throw new IllegalStateException();
    }
    machine.clear(program.entry);
    machine.write(program.origin, program.bytes, program.size);
  }

  public int loadPacked() throws UnsupportedOperationException {
    packing.refresh();
    if (!packing.fits()) {
      throw new UnsupportedOperationException();
    }
    int stub = packing.stubAddress();
    int start = stub - packing.length;
    machine.clear(stub);
    machine.write(start, packing.stream, packing.length);
    machine.writeStub(stub, start, program.origin, program.entry);
    return packing.layoutEnd() - program.origin;
  }

  public int run(int steps, int until) throws IllegalArgumentException {
    if (steps < 0 || steps > MOST_STEPS || until < -1 || until > BYTE) {
      throw new IllegalArgumentException();
    }
    int made = 0;
    while (made < steps && machine.runs() && machine.place != until) {
      machine.step();
      made++;
    }
    return made;
  }

  public int look(int what) throws IndexOutOfBoundsException {
    if (what >= 0 && what < Machine.REGISTERS) {
      return machine.registers[what];
    }
    switch (what) {
      case 8:
        return machine.place;
      case 9:
        return machine.state;
      case 10:
        return machine.steps;
      case 11:
        return machine.putOut;
      default:
        throw new IndexOutOfBoundsException();
    }
  }

  public int memory(int i) throws IndexOutOfBoundsException {
    if (!isByte(i)) {
      throw new IndexOutOfBoundsException();
    }
    return machine.memory[i];
  }

  public int out(int i) throws IndexOutOfBoundsException {
    if (!machine.keeps(i)) {
      throw new IndexOutOfBoundsException();
    }
    return machine.kept[i % Machine.KEPT];
  }

  public int apart() throws IllegalStateException, UnsupportedOperationException {
    if (!program.fits()) {
      throw new IllegalStateException();
    }
    packing.refresh();
    if (!packing.fits()) {
      throw new UnsupportedOperationException();
    }
    int end = program.origin + program.size;
    int layoutEnd = packing.layoutEnd();
    int count = 0;
    for (int i = 0; i < SPACE; i++) {
      boolean counts = i < end || i >= layoutEnd;
      if (counts && machine.memory[i] != program.loadedAt(i)) {
        count++;
      }
    }
    return count;
  }

  private static boolean isByte(int v) {
    return v >= 0 && v <= BYTE;
  }

  /** The bytes of the program, where they belong and where they begin. */
  private static final class Program {
    final int[] bytes;
    final int[] opened;
    int size;
    int origin;
    int entry;
    /** Another number after each change of the bytes, so that the packing knows when it is old. */
    int edition;

    Program() {
      bytes = new int[MOST];
      opened = new int[MOST];
    }

    boolean hasRoom(int n) {
      return n <= MOST - size;
    }

    boolean fits() {
      return origin + size <= SPACE;
    }

    void append(int v) {
      bytes[size] = v;
      size++;
      edition++;
    }

    void set(int i, int v) {
      bytes[i] = v;
      edition++;
    }

    void shorten(int n) {
      size = n;
      edition++;
    }

    int loadedAt(int address) {
      int i = address - origin;
      return i >= 0 && i < size ? bytes[i] : 0;
    }

    void openAsStream() {
      int read = 0;
      int grown = 0;
      while (read < size && bytes[read] != 0) {
        int token = bytes[read];
        if (token < Packing.FIRST_COPY) {
          grown = openRun(read, token, grown);
          read += 1 + token;
        } else {
          grown = openCopy(read, token - Packing.COPY_LESS, grown);
          read += 2;
        }
      }
      if (read >= size) {
        throw new NoSuchElementException();
      }
      if (read < size - 1) {
        throw new IllegalStateException();
      }
      System.arraycopy(opened, 0, bytes, 0, grown);
      shorten(grown);
    }

    private int openRun(int read, int n, int grown) {
      if (n > size - read - 1) {
        throw new NoSuchElementException();
      }
      if (n > MOST - grown) {
        throw new UnsupportedOperationException();
      }
      System.arraycopy(bytes, read + 1, opened, grown, n);
      return grown + n;
    }

    private int openCopy(int read, int n, int grown) {
      if (read + 1 >= size) {
        throw new NoSuchElementException();
      }
      int distance = bytes[read + 1];
      if (distance == 0 || distance > grown) {
        throw new IllegalArgumentException();
      }
      if (n > MOST - grown) {
        throw new UnsupportedOperationException();
      }
      // One by one, as a copy may reach into the bytes that it makes itself.
      for (int i = grown; i < grown + n; i++) {
        opened[i] = opened[i - distance];
      }
      return grown + n;
    }
  }

  /** The stream of the program and its gap, made anew only when the bytes have changed. */
  private static final class Packing {
    static final int FIRST_COPY = 128;
    static final int COPY_LESS = 126;
    private static final int LONGEST_COPY = 129;
    private static final int LONGEST_RUN = 127;
    /** 160 bytes in two runs, and the byte 0. */
    private static final int MOST_STREAM = 163;
    private static final int ABOVE_ANY_COST = 1000;

    final Program program;
    final int[] stream;
    int length;
    int gap;
    private int edition;
    /** For each byte: the length of the stream from there on, were it cut there. */
    private final int[] cost;
    /** For each byte: how many bytes the best token there makes, and its distance (0 of a run). */
    private final int[] makes;
    private final int[] distance;
    /** For each distance: how many bytes from the looked-at one on are as those so far before. */
    private final int[] alike;

    Packing() {
      program = new Program();
      stream = new int[MOST_STREAM];
      cost = new int[MOST + 1];
      makes = new int[MOST];
      distance = new int[MOST];
      alike = new int[MOST];
      edition = -1;
    }

    int stubAddress() {
      return program.origin + program.size + gap;
    }

    int layoutEnd() {
      return stubAddress() + Machine.STUB_LENGTH;
    }

    boolean fits() {
      return layoutEnd() <= SPACE;
    }

    void refresh() {
      if (edition == program.edition) {
        return;
      }
      int size = program.size;
      for (int d = 0; d < MOST; d++) {
        alike[d] = 0;
      }
      cost[size] = 1;
      for (int i = size - 1; i >= 0; i--) {
        findCopy(i);
        chooseToken(i);
      }
      length = cost[0];
      writeStream();
      edition = program.edition;
    }

    /** Finds the longest copy that can make byte i and those behind it, of several the nearest. */
    private void findCopy(int i) {
      int[] bytes = program.bytes;
      makes[i] = 0;
      distance[i] = 0;
      for (int d = 1; d <= i; d++) {
        alike[d] = bytes[i] == bytes[i - d] ? alike[d] + 1 : 0;
        int n = Math.min(alike[d], LONGEST_COPY);
        if (n > 1 && n > makes[i]) {
          makes[i] = n;
          distance[i] = d;
        }
      }
    }

    // A shorter copy than the longest is never better: the rest behind it is longer, and no stream
    // of a longer rest is shorter (drop its first byte, and what stands there still makes the others).
    private void chooseToken(int i) {
      int best = distance[i] > 0 ? 2 + cost[i + makes[i]] : ABOVE_ANY_COST;
      int most = Math.min(LONGEST_RUN, program.size - i);
      for (int n = 1; n <= most; n++) {
        int c = 1 + n + cost[i + n];
        if (c < best) {
          best = c;
          makes[i] = n;
          distance[i] = 0;
        }
      }
      cost[i] = best;
    }

    private void writeStream() {
      int size = program.size;
      int read = 0;
      int grown = 0;
      gap = Math.max(0, length - size);
      // Each token makes a byte at least, so there are at most as many as bytes.
      for (int token = 0; token < size && grown < size; token++) {
        int n = makes[grown];
        if (distance[grown] > 0) {
          stream[read] = n + COPY_LESS;
          stream[read + 1] = distance[grown];
          read += 2;
        } else {
          stream[read] = n;
          System.arraycopy(program.bytes, grown, stream, read + 1, n);
          read += 1 + n;
        }
        grown += n;
        gap = Math.max(gap, grown - size + length - read);
      }
      stream[read] = 0;
    }
  }

  /** The machine: its memory, registers and place, and what it put out. */
  private static final class Machine {
    static final int REGISTERS = 8;
    static final int KEPT = 32;
    static final int STUB_LENGTH = 60;
    private static final int RUNS = 0;
    private static final int STOPPED = 1;
    private static final int BROKEN = 2;
    private static final int FIRST_JUMP = 128;
    /** As of a stub at address 0; what is not known before (stream, origin, entry) is 0 here. */
    private static final int[] STUB = {
      17, 0, 18, 0, 83, 1, 65, 1, 147, 50, 163, 26, 84, 1, 100, 2, 65, 1, 66, 1,
      67, 255, 147, 4, 128, 12, 67, 130, 84, 1, 65, 1, 38, 2, 118, 4, 84, 6, 100, 2,
      70, 1, 66, 1, 67, 255, 147, 4, 128, 36, 17, 0, 18, 0, 20, 0, 22, 0, 128, 0
    };

    final int[] memory;
    final int[] registers;
    final int[] kept;
    int place;
    int state;
    int steps;
    int putOut;

    Machine() {
      memory = new int[SPACE];
      registers = new int[REGISTERS];
      kept = new int[KEPT];
      state = STOPPED;
    }

    boolean runs() {
      return state == RUNS;
    }

    boolean keeps(int i) {
      return i >= 0 && i < putOut && i >= putOut - KEPT;
    }

    void clear(int firstPlace) {
      for (int i = 0; i < SPACE; i++) {
        memory[i] = 0;
      }
      for (int i = 0; i < REGISTERS; i++) {
        registers[i] = 0;
      }
      place = firstPlace;
      state = RUNS;
      steps = 0;
      putOut = 0;
    }

    void write(int from, int[] row, int n) {
      System.arraycopy(row, 0, memory, from, n);
    }

    void writeStub(int stub, int start, int origin, int entry) {
      for (int i = 0; i < STUB_LENGTH; i += 2) {
        int shift = STUB[i] >= FIRST_JUMP ? stub : 0;
        memory[stub + i] = STUB[i];
        memory[stub + i + 1] = (STUB[i + 1] + shift) & BYTE;
      }
      memory[stub + 1] = start;
      memory[stub + 3] = origin;
      memory[stub + STUB_LENGTH - 1] = entry;
    }

    void step() {
      int x = memory[place];
      int y = memory[(place + 1) & BYTE];
      place = (place + 2) & BYTE;
      steps++;
      act(x >> 4, x & 7, y);
    }

    private void act(int kind, int r, int y) {
      int q = registers[y & 7];
      switch (kind) {
        case 0:
          state = STOPPED;
          break;
        case 6:
          memory[q] = registers[r];
          break;
        case 8:
        case 9:
        case 10:
        case 11:
          jump(kind, registers[r], y);
          break;
        case 14:
          kept[putOut % KEPT] = registers[r];
          putOut++;
          break;
        case 15:
          state = BROKEN;
          break;
        default:
          registers[r] = reckon(kind, registers[r], q, y) & BYTE;
          break;
      }
    }

    private void jump(int kind, int value, int y) {
      if (kind == 11) {
        place = value;
      } else if (kind == 8 || kind == 9 && value == 0 || kind == 10 && value > 127) {
        place = y;
      }
    }

    private int reckon(int kind, int value, int q, int y) {
      switch (kind) {
        case 1:
          return y;
        case 2:
          return q;
        case 3:
          return value + q;
        case 4:
          return value + y;
        case 5:
          return memory[q];
        case 7:
          return value - q;
        case 12:
          return value & q;
        default:
          return value >> (y & 7);
      }
    }
  }
}
