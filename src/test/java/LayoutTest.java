import java.util.Random;

/** Promises 13 and 18: a packed program in memory, and what is apart from the program as it was. */
public final class LayoutTest {
  private static final int[] EIGHT = {1, 2, 3, 4, 5, 6, 7, 8};

  public static void main(String[] args) {
    Check.run(LayoutTest.class);
  }

  /** Loads it packed and looks at all that is there then. */
  private static void laysOut(int o, int e, int... bytes) {
    SelfOpener x = Check.placed(o, e, bytes);
    int n = x.size();
    int g = x.gap();
    int[] stream = Check.streamOf(x);
    int a = o + n + g;
    int[] want = new int[256];
    System.arraycopy(stream, 0, want, a - stream.length, stream.length);
    System.arraycopy(Model.stub(a, a - stream.length, o, e), 0, want, a, 60);
    Check.answers("loadPacked", "" + (n + g + 60), x::loadPacked);
    Check.same("memory", Check.memoryOf(x), want);
    Check.due("the place is the stub's address", x.look(8), a);
  }

  // Terms: "n + g - c bytes 0; the stream; the STUB", and some before it.
  static void layoutWithBytesBefore() {
    SelfOpener x = Check.placed(100, 7, Check.alike(10, 9));
    Check.due("n + g - c", x.size() + x.gap() - x.packed(), 6);
    laysOut(100, 7, Check.alike(10, 9));
  }

  // Terms: "n + g - c bytes 0", none of them.
  static void layoutWithoutBytesBefore() {
    SelfOpener x = Check.placed(100, 7, EIGHT);
    Check.due("n + g - c", x.size() + x.gap() - x.packed(), 0);
    laysOut(100, 7, EIGHT);
  }

  // Terms: the layout of an empty program, 61 bytes.
  static void layoutOfAnEmptyProgram() {
    Check.answers("loadPacked", "61", () -> new SelfOpener().loadPacked());
    laysOut(0, 0);
    laysOut(195, 255);
  }

  // Terms: the layout of a full program, and the longest stream.
  static void layoutOfAFullProgram() {
    Check.answers("loadPacked", "223", () -> Check.program(Check.different(160)).loadPacked());
    laysOut(0, 200, Check.different(160));
    laysOut(33, 0, Check.different(160));
    laysOut(0, 0, Check.alike(160, 3));
  }

  // Terms: "(18, o)" and "(128, e)", at the edges of addresses.
  static void layoutWithOriginAndEntryAtTheirEdges() {
    laysOut(0, 0, 9);
    laysOut(0, 255, 9);
    laysOut(193, 0, 9);
    laysOut(193, 255, 9);
  }

  // Terms: "It is packed so only if o + n + g + 60 is at most 256": it is 256.
  static void layoutUpToTheEnd() {
    laysOut(195, 1);
    laysOut(186, 1, EIGHT);
    laysOut(33, 1, Check.different(160));
  }

  // Promise 13: "UnsupportedOperationException when it can't be packed so": by one.
  static void layoutBeyondTheEnd() {
    loadPackedLeaves(196);
    loadPackedLeaves(187, EIGHT);
    loadPackedLeaves(34, Check.different(160));
  }

  // Terms: "at most 256 (not by 256)".
  static void layoutFarBeyondTheEnd() {
    loadPackedLeaves(255);
    loadPackedLeaves(255, EIGHT);
    loadPackedLeaves(255, Check.different(160));
  }

  private static void loadPackedLeaves(int origin, int... bytes) {
    Check.leaves("loadPacked at " + origin, Check.UNSUPPORTED, () -> Check.workedWith(origin, bytes),
        SelfOpener::loadPacked);
  }

  // Terms, to load: "all memory is 0 but for what is loaded, all registers are 0, nothing was put out, ...".
  static void loadPackedClearsAll() {
    SelfOpener x = Check.worked();
    x.cut(0);
    x.place(50, 3);
    x.loadPacked();
    Check.due("memory(200)", x.memory(200), 0);
    Check.due("memory(10)", x.memory(10), 0);
    for (int i = 0; i <= 11; i++) {
      Check.due("look(" + i + ")", x.look(i), i == 8 ? 51 : 0);
    }
    Check.answers("out(0)", Check.INDEX, () -> x.out(0));
  }

  // Terms, to load: "the machine runs", when it had stopped, and when it was broken.
  static void loadPackedBehindAStop() {
    for (int kind : new int[] {0x00, 0xF0}) {
      SelfOpener x = Check.program(kind, 0);
      x.load();
      x.run(1, -1);
      x.loadPacked();
      Check.due("it runs", x.look(9), 0);
      Check.due("steps", x.look(10), 0);
    }
  }

  // Promise 13: what is loaded is the program as it is now.
  static void loadPackedBehindChanges() {
    SelfOpener x = Check.placed(20, 20, EIGHT);
    x.loadPacked();
    x.cut(0);
    x.put(9, 1);
    x.place(30, 40);
    Check.answers("loadPacked", "63", x::loadPacked);
    Check.due("the run", x.memory(30), 1);
    Check.due("its byte", x.memory(31), 9);
    Check.due("its end", x.memory(32), 0);
    Check.due("the stub", x.memory(33), 17);
    Check.due("the origin", x.memory(36), 30);
    Check.due("the entry", x.memory(92), 40);
    Check.due("nothing at 20", x.memory(20), 0);
  }

  // Promise 13: loadPacked leaves the program.
  static void loadPackedLeavesTheProgram() {
    SelfOpener x = Check.placed(20, 21, 9, 9, 9, 9);
    x.loadPacked();
    Check.due("size", x.size(), 4);
    Check.due("packed", x.packed(), 5);
    x.load();
    Check.due("first byte", x.memory(20), 9);
    Check.due("byte behind", x.memory(24), 0);
    Check.due("entry", x.look(8), 21);
  }

  // Promises 13, 14 and 18: packed and run until its entry, any program is there, and no register is left.
  static void opensItself() {
    Random random = new Random(19);
    for (int k = 0; k < 2000; k++) {
      int n = random.nextInt(161);
      int kinds = 1 + random.nextInt(k % 2 == 0 ? 3 : 255);
      int[] bytes = new int[n];
      for (int i = 0; i < n; i++) {
        bytes[i] = i > 9 && random.nextInt(4) > 0 ? bytes[i - 1 - random.nextInt(9)] : random.nextInt(kinds);
      }
      SelfOpener x = Check.placed(0, 0, bytes);
      int room = 256 - 60 - n - x.gap();
      int origin = random.nextInt(room + 1);
      int entry = n > 0 ? origin + random.nextInt(n) : origin;
      x.place(origin, entry);
      Check.due("layout", x.loadPacked(), n + x.gap() + 60);
      x.run(4000, entry);
      Check.due("it comes to its entry", x.look(8), entry);
      Check.due("it runs", x.look(9), 0);
      for (int i = 0; i < 8; i++) {
        Check.due("register " + i, x.look(i), 0);
      }
      Check.due("apart", x.apart(), 0);
      for (int i = 0; i < n; i++) {
        Check.due("byte " + i, x.memory(origin + i), bytes[i]);
      }
    }
  }

  // Terms: a packed program that stands at the very end of memory opens itself, too.
  static void opensItselfAtTheEnd() {
    SelfOpener x = Check.placed(33, 33, Check.different(160));
    x.loadPacked();
    x.run(4000, 33);
    Check.due("place", x.look(8), 33);
    Check.due("apart", x.apart(), 0);
    SelfOpener none = Check.placed(195, 0);
    none.loadPacked();
    Check.due("run", none.run(4000, 0), 10);
    Check.due("apart", none.apart(), 0);
  }

  // Promise 18: before anything is loaded, the program's own bytes are apart (but for those of 0).
  static void apartBeforeALoad() {
    Check.due("apart", Check.placed(50, 50, 1, 2, 0, 3).apart(), 3);
    Check.due("apart of none", new SelfOpener().apart(), 0);
  }

  // Promise 18: "as they would be if the program had just been loaded".
  static void apartBehindALoad() {
    SelfOpener x = Check.placed(50, 50, 1, 2, 0, 3);
    x.load();
    Check.due("apart", x.apart(), 0);
    x.run(1, -1);
    Check.due("apart of steps that write nothing", x.apart(), 0);
  }

  // Promise 18: the program is what it is now: its bytes.
  static void apartBehindAChange() {
    SelfOpener x = Check.placed(50, 50, 1, 2, 0, 3);
    x.load();
    x.change(1, 7);
    Check.due("apart", x.apart(), 1);
    x.change(2, 7);
    Check.due("apart", x.apart(), 2);
    x.change(1, 2);
    Check.due("apart", x.apart(), 1);
  }

  // Promise 18: the program is what it is now: its origin; Terms: its entry is no byte of memory.
  static void apartBehindAPlace() {
    SelfOpener x = Check.placed(50, 50, 1, 2, 0, 3);
    x.load();
    x.place(50, 99);
    Check.due("apart with another entry", x.apart(), 0);
    x.place(51, 50);
    Check.due("apart one further", x.apart(), 5);
  }

  // Promise 18: the program is what it is now: what was cut off is behind its end.
  static void apartBehindACut() {
    SelfOpener x = Check.placed(50, 50, 1, 2, 0, 3);
    x.load();
    x.cut(1);
    Check.due("apart", x.apart(), 0);
    x.place(0, 0);
    Check.due("apart at 0", x.apart(), 1);
  }

  /** Loads six bytes at 50, which write 5 at the address: is that apart? */
  private static void apartOfAWrite(int address, int want) {
    SelfOpener x = Check.placed(50, 50, 0x11, address, 0x12, 5, 0x62, 1);
    Check.due("gap", x.gap(), 2);
    x.load();
    x.run(3, -1);
    Check.due("it wrote", x.memory(address), 5);
    Check.due("apart when it wrote at " + address, x.apart(), want);
  }

  // Promise 18: the last byte of the program counts.
  static void apartAtTheLastByteOfTheProgram() {
    apartOfAWrite(55, 1);
  }

  // Promise 18: "outside of the addresses from the end of the program on": the first of them.
  static void apartAtTheEndOfTheProgram() {
    apartOfAWrite(56, 0);
  }

  // Promise 18: "on to the end of its layout": the last of them.
  static void apartAtTheLastByteOfTheLayout() {
    apartOfAWrite(117, 0);
  }

  // Promise 18: "on to the end of its layout": the first behind it.
  static void apartBehindTheLayout() {
    apartOfAWrite(118, 1);
  }

  // Promise 18: the first byte of the program, and that before it.
  static void apartAtTheFirstByteOfTheProgram() {
    apartOfAWrite(50, 1);
    apartOfAWrite(49, 1);
  }

  // Promise 18: the first and the last byte of memory.
  static void apartAtTheEdgesOfMemory() {
    apartOfAWrite(0, 1);
    apartOfAWrite(255, 1);
  }

  // Promise 18: a byte written that is as it was is not apart.
  static void apartOfAWriteThatChangesNothing() {
    SelfOpener x = Check.placed(50, 50, 0x11, 53, 0x12, 5, 0x62, 1);
    x.load();
    x.run(3, -1);
    Check.due("apart", x.apart(), 0);
  }

  // Promise 18: the layout ends with memory.
  static void apartOfALayoutUpToTheEnd() {
    Check.due("apart", Check.placed(186, 0, EIGHT).apart(), 8);
    Check.due("apart of none", Check.placed(195, 0).apart(), 0);
    Check.due("apart of a full one", Check.placed(33, 0, Check.different(160)).apart(), 159);
  }

  // Promise 18: packed and not yet opened; the zeros before the stream are apart, too.
  static void apartBeforeItOpens() {
    SelfOpener x = Check.placed(50, 50, 1, 2, 0, 3);
    x.loadPacked();
    Check.due("apart", x.apart(), 4);
    SelfOpener y = Check.placed(50, 50, Check.alike(10, 9));
    y.loadPacked();
    Check.due("apart with zeros before", y.apart(), 9);
  }

  // Promise 18: apart changes nothing.
  static void apartLeavesAll() {
    Check.leaves("apart", "22", Check::worked, SelfOpener::apart);
  }

  // Promise 18: "UnsupportedOperationException when it can't be packed": by one.
  static void apartOfWhatCannotBePacked() {
    apartLeaves(Check.UNSUPPORTED, 187, EIGHT);
    apartLeaves(Check.UNSUPPORTED, 196);
    apartLeaves(Check.UNSUPPORTED, 34, Check.different(160));
  }

  // Promise 18: "UnsupportedOperationException", when it can just be loaded.
  static void apartOfWhatCanJustBeLoaded() {
    apartLeaves(Check.UNSUPPORTED, 248, EIGHT);
    apartLeaves(Check.UNSUPPORTED, 255);
    apartLeaves(Check.UNSUPPORTED, 96, Check.different(160));
  }

  // Promise 18: "IllegalStateException when it can't be loaded"; Terms: of both the one named first.
  static void apartOfWhatCannotBeLoaded() {
    apartLeaves(Check.STATE, 249, EIGHT);
    apartLeaves(Check.STATE, 97, Check.different(160));
    apartLeaves(Check.STATE, 255, Check.different(160));
  }

  private static void apartLeaves(String want, int origin, int... bytes) {
    Check.leaves("apart at " + origin, want, () -> Check.workedWith(origin, bytes), SelfOpener::apart);
  }
}
