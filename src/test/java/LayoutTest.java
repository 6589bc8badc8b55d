import java.util.Random;

/** Promises 13 and 18: a packed program in memory, and what is apart from the program as it was. */
public final class LayoutTest {
  private static final String UNSUPPORTED = "throws.UnsupportedOperationException";

  public static void main(String[] args) {
    layout();
    whereItFits();
    opensItself();
    apart();
    apartThrows();
    Check.end();
  }

  private static int[] stub(int a, int s, int o, int e) {
    return new int[] {
      17, s, 18, o, 83, 1, 65, 1, 147, a + 50, 163, a + 26, 84, 1, 100, 2, 65, 1, 66, 1, 67, 255,
      147, a + 4, 128, a + 12, 67, 130, 84, 1, 65, 1, 38, 2, 118, 4, 84, 6, 100, 2, 70, 1, 66, 1,
      67, 255, 147, a + 4, 128, a + 36, 17, 0, 18, 0, 20, 0, 22, 0, 128, e
    };
  }

  private static void layout() {
    SelfOpener x = Check.placed(100, 7, 9, 9, 9, 9, 9, 9, 9, 9, 9, 9);
    x.load();
    x.run(1, -1);
    checkLayout("ten alike", x, 100, 7);
    checkLayout("none", Check.placed(195, 255), 195, 255);
    checkLayout("127 different at 69", Check.placed(67, 0, Check.different(127)), 67, 0);
    checkLayout("160 different", Check.placed(0, 200, Check.different(160)), 0, 200);
  }

  private static void checkLayout(String what, SelfOpener x, int o, int e) {
    int n = x.size();
    int g = x.gap();
    int c = x.packed();
    int a = o + n + g;
    int[] want = new int[256];
    for (int i = 0; i < c; i++) {
      want[a - c + i] = x.stream(i);
    }
    System.arraycopy(stub(a, a - c, o, e), 0, want, a, 60);
    Check.due(what + ": loadPacked", x.loadPacked(), n + g + 60);
    int[] got = new int[256];
    for (int i = 0; i < 256; i++) {
      got[i] = x.memory(i);
    }
    Check.same(what + ": memory", got, want);
    for (int i = 0; i < 12; i++) {
      Check.due(what + ": look(" + i + ")", x.look(i), i == 8 ? a : 0);
    }
  }

  private static void whereItFits() {
    SelfOpener none = Check.placed(195, 0);
    Check.answers("none at 195", "61", none::loadPacked);
    none.place(196, 0);
    Check.answers("none at 196", UNSUPPORTED, none::loadPacked);
    SelfOpener x = Check.placed(186, 0, 1, 2, 3, 4, 5, 6, 7, 8);
    Check.answers("eight at 186", "70", x::loadPacked);
    x.run(5, -1);
    x.place(187, 0);
    Check.answers("eight at 187", UNSUPPORTED, x::loadPacked);
    Check.due("what throws changes nothing", x.look(10), 5);
    Check.due("nor the memory", x.memory(186 + 10), 17);
    x.place(255, 0);
    Check.answers("eight at 255", UNSUPPORTED, x::loadPacked);
  }

  /** Packed and run until its entry, any program is there as it was, and no register is left. */
  private static void opensItself() {
    Random random = new Random(19);
    for (int k = 0; k < 2000; k++) {
      int n = random.nextInt(161);
      int kinds = 1 + random.nextInt(k % 2 == 0 ? 3 : 255);
      int[] bytes = new int[n];
      for (int i = 0; i < n; i++) {
        bytes[i] = i > 9 && random.nextInt(4) > 0 ? bytes[i - 1 - random.nextInt(9)] : random.nextInt(kinds);
      }
      SelfOpener x = Check.placed(0, 0, bytes);
      int room = 256 - 60 - n - x.gap();
      int origin = random.nextInt(room + 1);
      int entry = n > 0 ? origin + random.nextInt(n) : origin;
      x.place(origin, entry);
      Check.due("layout", x.loadPacked(), n + x.gap() + 60);
      x.run(4000, entry);
      Check.due("it comes to its entry", x.look(8), entry);
      Check.due("it runs", x.look(9), 0);
      for (int i = 0; i < 8; i++) {
        Check.due("register " + i, x.look(i), 0);
      }
      Check.due("apart", x.apart(), 0);
      for (int i = 0; i < n; i++) {
        Check.due("byte " + i, x.memory(origin + i), bytes[i]);
      }
    }
  }

  private static void apart() {
    SelfOpener x = Check.placed(50, 50, 1, 2, 0, 3);
    Check.due("nothing is loaded", x.apart(), 3);
    x.load();
    Check.due("just loaded", x.apart(), 0);
    x.change(1, 7);
    Check.due("a byte changed", x.apart(), 1);
    x.place(51, 50);
    Check.due("another origin", x.apart(), 5);
    x.place(50, 50);
    x.cut(1);
    Check.due("bytes from the end of the program on do not count", x.apart(), 0);
    x.place(0, 0);
    Check.due("all is behind the end, but for what stands first", x.apart(), 1);
    int[][] writes = {{49, 1}, {50, 1}, {54, 1}, {55, 1}, {56, 0}, {57, 0}, {58, 0}, {117, 0}, {118, 1}, {255, 1}, {0, 1}};
    for (int[] w : writes) {
      SelfOpener writer = Check.placed(50, 50, 0x11, w[0], 0x12, 5, 0x62, 1);
      Check.due("its gap", writer.gap(), 2);
      writer.load();
      writer.run(3, -1);
      Check.due("apart when it wrote at " + w[0], writer.apart(), w[1]);
      writer.run(0, -1);
      Check.due("apart changes nothing", writer.look(10), 3);
    }
    SelfOpener packed = Check.placed(50, 50, 1, 2, 0, 3);
    packed.loadPacked();
    Check.due("packed, not yet opened", packed.apart(), 4);
  }

  private static void apartThrows() {
    SelfOpener x = Check.placed(186, 0, 1, 2, 3, 4, 5, 6, 7, 8);
    Check.answers("eight at 186", "8", x::apart);
    x.place(187, 0);
    Check.answers("eight at 187", UNSUPPORTED, x::apart);
    x.place(248, 0);
    Check.answers("eight at 248", UNSUPPORTED, x::apart);
    x.place(249, 0);
    Check.answers("eight at 249", "throws.IllegalStateException", x::apart);
    SelfOpener none = Check.placed(255, 0);
    Check.answers("none at 255", UNSUPPORTED, none::apart);
  }
}
