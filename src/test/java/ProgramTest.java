/** Promises 1 to 7: a new object, and what changes the program. */
public final class ProgramTest {
  private static final int LEAST = Integer.MIN_VALUE;
  private static final int MOST = Integer.MAX_VALUE;

  public static void main(String[] args) {
    newObject();
    put();
    again();
    change();
    cut();
    place();
    machineStays();
    Check.end();
  }

  private static void newObject() {
    SelfOpener x = new SelfOpener();
    Check.due("new: size", x.size(), 0);
    Check.due("new: packed", x.packed(), 1);
    Check.due("new: stream", x.stream(0), 0);
    Check.due("new: gap", x.gap(), 1);
    for (int i = 0; i <= 11; i++) {
      Check.due("new: look(" + i + ")", x.look(i), i == 9 ? 1 : 0);
    }
    for (int i = 0; i < 256; i++) {
      Check.due("new: memory(" + i + ")", x.memory(i), 0);
    }
    Check.answers("new: out(0)", "throws.IndexOutOfBoundsException", () -> x.out(0));
    Check.due("new: run", x.run(4000, -1), 0);
    Check.due("new: place behind a run", x.look(8), 0);
    Check.due("new: apart", x.apart(), 0);
    Check.answers("new: unpack", "throws.NoSuchElementException", x::unpack);
    x.load();
    Check.due("new: origin and entry are 0", x.look(8), 0);
  }

  private static void put() {
    SelfOpener x = new SelfOpener();
    Check.due("put(.., 8)", x.put(0x8877665544332211L, 8), true);
    Check.due("put(.., 3)", x.put(-1L << 16 | 0x0201L, 3), true);
    Check.due("put(.., 1)", x.put(0x7FL << 8 | 0xFE, 1), true);
    Check.due("size behind puts", x.size(), 12);
    for (int n : new int[] {0, -1, 9, LEAST, MOST}) {
      Check.due("put(1, " + n + ")", x.put(1, n), false);
    }
    Check.same("bytes put", Check.bytesOf(x), 0x11, 0x22, 0x33, 0x44, 0x55, 0x66, 0x77, 0x88, 1, 2, 255, 0xFE);
    SelfOpener full = Check.program(Check.different(153));
    Check.due("put of 8 behind 153", full.put(-1, 8), false);
    Check.due("size stays", full.size(), 153);
    Check.due("put of 7 behind 153", full.put(-1, 7), true);
    Check.due("size full", full.size(), 160);
    Check.due("put behind 160", full.put(-1, 1), false);
    Check.due("size stays full", full.size(), 160);
  }

  private static void again() {
    SelfOpener x = Check.program(7, 8, 9);
    Check.due("again(3, 2)", x.again(3, 2), true);
    Check.due("again(1, 3)", x.again(1, 3), true);
    Check.due("again(2, 0)", x.again(2, 0), true);
    Check.same("bytes again", Check.bytesOf(x), 7, 8, 9, 7, 8, 8, 8, 8);
    int[][] wrong = {{0, 1}, {-1, 1}, {9, 1}, {LEAST, 1}, {MOST, 1}, {1, -1}, {1, LEAST}, {1, 153}, {1, MOST}, {0, 0}};
    for (int[] w : wrong) {
      Check.due("again(" + w[0] + ", " + w[1] + ")", x.again(w[0], w[1]), false);
    }
    Check.due("size stays", x.size(), 8);
    Check.due("again(8, 152)", x.again(8, 152), true);
    Check.due("size full", x.size(), 160);
    int[] bytes = Check.bytesOf(x);
    for (int i = 8; i < 160; i++) {
      Check.due("byte " + i, bytes[i], bytes[i - 8]);
    }
    Check.due("again(160, 1) when full", x.again(160, 1), false);
    Check.due("again(160, 0) when full", x.again(160, 0), true);
    Check.due("again(1, 0) of none", new SelfOpener().again(1, 0), false);
    Check.due("again(0, 0) of none", new SelfOpener().again(0, 0), false);
  }

  private static void change() {
    SelfOpener x = Check.program(1, 2, 3);
    x.change(0, 255);
    x.change(2, 0);
    String index = "throws.IndexOutOfBoundsException";
    String argument = "throws.IllegalArgumentException";
    Check.does("change(3, 1)", index, () -> x.change(3, 1));
    Check.does("change(-1, 1)", index, () -> x.change(-1, 1));
    Check.does("change(MOST, 1)", index, () -> x.change(MOST, 1));
    Check.does("change(3, 256)", index, () -> x.change(3, 256));
    Check.does("change(1, 256)", argument, () -> x.change(1, 256));
    Check.does("change(1, -1)", argument, () -> x.change(1, -1));
    Check.same("bytes changed", Check.bytesOf(x), 255, 2, 0);
    Check.does("change of none", index, () -> new SelfOpener().change(0, 0));
  }

  private static void cut() {
    SelfOpener x = Check.program(1, 2, 3, 4);
    String argument = "throws.IllegalArgumentException";
    Check.does("cut(5)", argument, () -> x.cut(5));
    Check.does("cut(-1)", argument, () -> x.cut(-1));
    Check.does("cut(LEAST)", argument, () -> x.cut(LEAST));
    x.cut(4);
    Check.due("size behind cut(4)", x.size(), 4);
    x.cut(2);
    Check.does("cut(3) behind cut(2)", argument, () -> x.cut(3));
    Check.same("bytes cut", Check.bytesOf(x), 1, 2);
    Check.add(x, 9);
    Check.same("bytes put behind a cut", Check.bytesOf(x), 1, 2, 9);
    x.cut(0);
    Check.due("size behind cut(0)", x.size(), 0);
    Check.due("packed behind cut(0)", x.packed(), 1);
  }

  private static void place() {
    SelfOpener x = Check.program(5, 6);
    String argument = "throws.IllegalArgumentException";
    x.place(254, 255);
    int[][] wrong = {{256, 0}, {-1, 0}, {0, 256}, {0, -1}, {MOST, 0}, {0, LEAST}};
    for (int[] w : wrong) {
      Check.does("place(" + w[0] + ", " + w[1] + ")", argument, () -> x.place(w[0], w[1]));
    }
    x.load();
    Check.due("entry", x.look(8), 255);
    Check.due("first byte", x.memory(254), 5);
    Check.due("second byte", x.memory(255), 6);
    Check.due("not at 0", x.memory(0), 0);
  }

  /** The machine, and what it has, stays with all that changes the program. */
  private static void machineStays() {
    SelfOpener x = Check.placed(10, 10, 0x11, 42, 0xE1, 0, 0x00, 0);
    x.load();
    x.run(100, -1);
    String before = machine(x);
    x.place(20, 30);
    Check.due("put", x.put(3, 1), true);
    Check.due("again", x.again(2, 20), true);
    x.change(0, 9);
    x.cut(0);
    Check.add(x, 1, 77, 0);
    Check.due("unpack", x.unpack(), 1);
    Check.due("packed", x.packed(), 3);
    Check.answers("the machine", before, () -> machine(x));
  }

  private static String machine(SelfOpener x) {
    StringBuilder text = new StringBuilder();
    for (int i = 0; i < 12; i++) {
      text.append(x.look(i)).append(' ');
    }
    for (int i = 0; i < 256; i++) {
      text.append(x.memory(i)).append(' ');
    }
    return text.append(x.out(0)).toString();
  }
}
