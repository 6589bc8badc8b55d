import java.util.ArrayList;
import java.util.Arrays;
import java.util.List;
import java.util.Random;

/** Promises 12 and 14 to 17: load, run, look, memory, out. */
public final class MachineTest {
  private static final int LEAST = Integer.MIN_VALUE;
  private static final int MOST = Integer.MAX_VALUE;

  public static void main(String[] args) {
    load();
    eachKind();
    stops();
    run();
    out();
    wrongIndices();
    anyBytes();
    Check.end();
  }

  private static void load() {
    SelfOpener x = Check.placed(10, 20, 0x14, 5, 0xE4, 0, 0x64, 0, 0x0F, 9);
    x.place(20, 20);
    x.load();
    x.run(100, -1);
    Check.due("it put out", x.look(11), 1);
    Check.due("it wrote", x.memory(0), 5);
    x.load();
    for (int i = 0; i <= 11; i++) {
      Check.due("behind load: look(" + i + ")", x.look(i), i == 8 ? 20 : 0);
    }
    for (int i = 0; i < 256; i++) {
      Check.due("behind load: memory(" + i + ")", x.memory(i), i == 20 ? 0x14 : i == 21 ? 5 : i == 22 ? 0xE4
          : i == 24 ? 0x64 : i == 26 ? 0x0F : i == 27 ? 9 : 0);
    }
    Check.answers("behind load: out(0)", "throws.IndexOutOfBoundsException", () -> x.out(0));
    x.place(249, 0);
    x.run(1, -1);
    Check.does("load beyond the end", "throws.IllegalStateException", x::load);
    Check.due("what throws changes nothing", x.look(10), 1);
    x.place(248, 0);
    Check.does("load up to the end", "nothing", x::load);
    Check.due("last byte", x.memory(255), 9);
    SelfOpener none = Check.placed(255, 3);
    none.load();
    Check.due("none loaded at 255", none.look(8), 3);
  }

  /** Runs so many steps of the bytes, loaded at 0. */
  private static SelfOpener after(int steps, int... bytes) {
    SelfOpener x = Check.program(bytes);
    x.load();
    Check.due("steps made", x.run(steps, -1), steps);
    Check.due("steps told", x.look(10), steps);
    return x;
  }

  private static void eachKind() {
    Check.due("1 R is y", after(1, 0x13, 200).look(3), 200);
    Check.due("the bit 8 counts for nothing", after(1, 0x1B, 200).look(3), 200);
    Check.due("2 R is Q", after(2, 0x11, 9, 0x22, 0xF9).look(2), 9);
    Check.due("3 R + Q", after(3, 0x11, 200, 0x12, 100, 0x31, 2).look(1), 44);
    Check.due("4 R + y", after(2, 0x11, 250, 0x41, 10).look(1), 4);
    Check.due("5 the byte at Q", after(2, 0x11, 3, 0x52, 1).look(2), 1);
    Check.due("6 at Q is R", after(3, 0x11, 99, 0x12, 77, 0x61, 2).memory(77), 99);
    Check.due("7 R - Q", after(3, 0x11, 3, 0x12, 5, 0x71, 2).look(1), 254);
    Check.due("8 the place is y", after(1, 0x80, 77).look(8), 77);
    Check.due("9 if R is 0", after(1, 0x95, 77).look(8), 77);
    Check.due("9 if R is not 0", after(2, 0x15, 1, 0x95, 77).look(8), 4);
    Check.due("10 if R is 127", after(2, 0x15, 127, 0xA5, 77).look(8), 4);
    Check.due("10 if R is 128", after(2, 0x15, 128, 0xA5, 77).look(8), 77);
    Check.due("11 the place is R", after(2, 0x15, 90, 0xB5, 77).look(8), 90);
    Check.due("12 R & Q", after(3, 0x11, 0x3C, 0x12, 0x66, 0xC1, 2).look(1), 0x24);
    Check.due("13 R >> y & 7", after(2, 0x11, 0x90, 0xD1, 0xFB).look(1), 0x12);
    Check.due("13 R >> 0", after(2, 0x11, 0x90, 0xD1, 8).look(1), 0x90);
    Check.due("14 put out", after(2, 0x11, 0x90, 0xE1, 8).out(0), 0x90);
    Check.due("3 of itself", after(2, 0x11, 0x90, 0x31, 1).look(1), 0x20);
    Check.due("7 of itself", after(2, 0x11, 0x90, 0x71, 1).look(1), 0);
    Check.due("9 goes on behind", after(1, 0x95, 77).look(9), 0);
  }

  private static void stops() {
    SelfOpener x = Check.program(0x07, 1, 0x11, 1);
    x.load();
    Check.due("the stop is a step", x.run(10, -1), 1);
    Check.due("it has stopped", x.look(9), 1);
    Check.due("the place is behind", x.look(8), 2);
    Check.due("no step more", x.run(10, -1), 0);
    Check.due("steps", x.look(10), 1);
    SelfOpener y = Check.program(0x11, 1, 0xFF, 1);
    y.load();
    Check.due("broken with a step", y.run(10, -1), 2);
    Check.due("it is broken", y.look(9), 2);
    Check.due("the place is behind", y.look(8), 4);
    Check.due("no step more when broken", y.run(10, -1), 0);
    y.load();
    Check.due("it runs again", y.look(9), 0);
    SelfOpener z = Check.placed(96, 255, 1);
    z.load();
    Check.due("at the end", z.run(1, -1), 1);
    Check.due("by 256", z.look(8), 1);
    SelfOpener w = Check.placed(0, 255, 77);
    w.again(1, 159);
    w.place(96, 255);
    w.change(159, 0x12);
    w.load();
    w.run(1, -1);
    Check.due("y stands at 0", w.look(2), 0);
    Check.due("the place goes round", w.look(8), 1);
  }

  private static void run() {
    SelfOpener x = Check.program(0x40, 1, 0x80, 0);
    x.load();
    Check.due("no steps", x.run(0, -1), 0);
    Check.due("until holds before the first step", x.run(5, 0), 0);
    Check.due("until an address", x.run(50, 2), 1);
    Check.due("until another", x.run(50, 0), 1);
    Check.due("until none", x.run(7, 200), 7);
    Check.due("the most", x.run(4000, -1), 4000);
    Check.due("in all", x.look(10), 4009);
    String argument = "throws.IllegalArgumentException";
    int[][] wrong = {{4001, 0}, {-1, 0}, {MOST, 0}, {LEAST, 0}, {0, -2}, {0, 256}, {1, LEAST}, {1, MOST}};
    for (int[] w : wrong) {
      Check.answers("run(" + w[0] + ", " + w[1] + ")", argument, () -> x.run(w[0], w[1]));
    }
    Check.due("what throws makes no step", x.look(10), 4009);
    SelfOpener y = Check.program(0x14, 255);
    y.load();
    Check.due("until 255", y.run(1, 255), 1);
  }

  private static void out() {
    SelfOpener x = Check.program(0x40, 1, 0xE0, 0, 0x80, 0);
    x.load();
    x.run(32 * 3, -1);
    Check.due("put out", x.look(11), 32);
    Check.due("the first of 32", x.out(0), 1);
    Check.due("the last of 32", x.out(31), 32);
    Check.answers("none behind", "throws.IndexOutOfBoundsException", () -> x.out(32));
    x.run(3, -1);
    Check.due("put out, one more", x.look(11), 33);
    Check.answers("the first is gone", "throws.IndexOutOfBoundsException", () -> x.out(0));
    Check.due("the second", x.out(1), 2);
    Check.due("the latest", x.out(32), 33);
    x.run(3 * 267, -1);
    Check.due("put out in all", x.look(11), 300);
    Check.due("byte 268", x.out(268), 269 - 256);
    Check.due("byte 299", x.out(299), 300 - 256);
    Check.answers("byte 267", "throws.IndexOutOfBoundsException", () -> x.out(267));
    Check.answers("byte 300", "throws.IndexOutOfBoundsException", () -> x.out(300));
    Check.answers("byte -1", "throws.IndexOutOfBoundsException", () -> x.out(-1));
    Check.answers("byte LEAST", "throws.IndexOutOfBoundsException", () -> x.out(LEAST));
    Check.answers("byte MOST", "throws.IndexOutOfBoundsException", () -> x.out(MOST));
  }

  private static void wrongIndices() {
    SelfOpener x = new SelfOpener();
    for (int i : new int[] {-1, 12, 256, LEAST, MOST}) {
      Check.answers("look(" + i + ")", "throws.IndexOutOfBoundsException", () -> x.look(i));
    }
    for (int i : new int[] {-1, 256, LEAST, MOST}) {
      Check.answers("memory(" + i + ")", "throws.IndexOutOfBoundsException", () -> x.memory(i));
    }
  }

  /** Any bytes, beside a machine written another way. */
  private static void anyBytes() {
    Random random = new Random(17);
    for (int k = 0; k < 3000; k++) {
      int[] bytes = new int[1 + random.nextInt(160)];
      for (int i = 0; i < bytes.length; i++) {
        boolean likely = i % 2 == 0 && random.nextInt(10) > 0;
        bytes[i] = likely ? 16 + random.nextInt(224) : random.nextInt(256);
      }
      int origin = random.nextInt(256 - bytes.length + 1) & 255;
      int entry = random.nextInt(4) == 0 ? random.nextInt(256) : origin;
      if (origin + bytes.length > 256) {
        continue;
      }
      SelfOpener x = Check.placed(origin, entry, bytes);
      x.load();
      Other other = new Other(origin, entry, bytes);
      for (int part = 0; part < 5; part++) {
        int steps = random.nextInt(60);
        int until = random.nextInt(257) - 1;
        Check.due("run", x.run(steps, until), other.run(steps, until));
        other.beside(x, "program " + k);
      }
    }
  }

  /** The machine of the document, told once more. */
  private static final class Other {
    private final int[] memory = new int[256];
    private final int[] r = new int[8];
    private final List<Integer> out = new ArrayList<>();
    private int place;
    private int state;
    private int steps;

    Other(int origin, int entry, int[] bytes) {
      System.arraycopy(bytes, 0, memory, origin, bytes.length);
      place = entry;
    }

    int run(int most, int until) {
      int made = 0;
      while (made < most && state == 0 && place != until) {
        step();
        made++;
      }
      steps += made;
      return made;
    }

    private void step() {
      int x = memory[place];
      int y = memory[(place + 1) % 256];
      int i = x % 8;
      int q = r[y % 8];
      place = (place + 2) % 256;
      switch (x / 16) {
        case 0 -> state = 1;
        case 1 -> r[i] = y;
        case 2 -> r[i] = q;
        case 3 -> r[i] = (r[i] + q) % 256;
        case 4 -> r[i] = (r[i] + y) % 256;
        case 5 -> r[i] = memory[q];
        case 6 -> memory[q] = r[i];
        case 7 -> r[i] = (r[i] + 256 - q) % 256;
        case 8 -> place = y;
        case 9 -> place = r[i] == 0 ? y : place;
        case 10 -> place = r[i] > 127 ? y : place;
        case 11 -> place = r[i];
        case 12 -> r[i] = r[i] & q;
        case 13 -> r[i] = r[i] / (1 << y % 8);
        case 14 -> out.add(r[i]);
        default -> state = 2;
      }
    }

    void beside(SelfOpener x, String what) {
      int[] got = new int[12];
      for (int i = 0; i < 12; i++) {
        got[i] = x.look(i);
      }
      int[] want = Arrays.copyOf(r, 12);
      want[8] = place;
      want[9] = state;
      want[10] = steps;
      want[11] = out.size();
      Check.same(what + ": look", got, want);
      int[] memoryGot = new int[256];
      for (int i = 0; i < 256; i++) {
        memoryGot[i] = x.memory(i);
      }
      Check.same(what + ": memory", memoryGot, memory);
      for (int i = Math.max(0, out.size() - 32); i < out.size(); i++) {
        Check.due(what + ": out(" + i + ")", x.out(i), out.get(i));
      }
    }
  }
}
