import java.util.Arrays;
import java.util.Random;

/** Promises 12 and 14 to 17: load, run, look, memory, out, and what 'Terms' tells of the machine. */
public final class MachineTest {
  public static void main(String[] args) {
    Check.run(MachineTest.class);
  }

  /** Loads the bytes at 0 and runs so many steps of them. */
  private static SelfOpener after(int steps, int... bytes) {
    SelfOpener x = Check.program(bytes);
    x.load();
    Check.due("steps made", x.run(steps, -1), steps);
    Check.due("steps told", x.look(10), steps);
    return x;
  }

  /** The byte at 255 is x, that at 0 is y; the place is 255 (two bytes at 0, too, are y and 0). */
  private static SelfOpener atTheEnd(int x, int y) {
    SelfOpener s = Check.placed(0, 0, 0x11, x, 0x12, 255, 0x61, 2, 0x11, y, 0x12, 0, 0x61, 2, 0x80, 255);
    s.load();
    Check.due("steps", s.run(7, 255), 7);
    return s;
  }

  // Promise 12: "its bytes from its origin on; the place is its entry".
  static void loadPutsAllInItsPlace() {
    SelfOpener x = Check.placed(10, 20, 1, 2, 3);
    x.load();
    int[] want = new int[256];
    System.arraycopy(new int[] {1, 2, 3}, 0, want, 10, 3);
    Check.same("memory", Check.memoryOf(x), want);
    Check.due("place", x.look(8), 20);
  }

  // Terms, to load: "all memory is 0 but for what is loaded".
  static void loadClearsTheMemory() {
    SelfOpener x = after(4, 0x11, 99, 0x12, 200, 0x61, 2, 0x14, 7);
    Check.due("it wrote", x.memory(200), 99);
    x.cut(1);
    x.place(5, 0);
    x.load();
    int[] want = new int[256];
    want[5] = 0x11;
    Check.same("memory", Check.memoryOf(x), want);
  }

  // Terms, to load: "all registers are 0".
  static void loadClearsTheRegisters() {
    SelfOpener x = after(8, 0x10, 1, 0x11, 2, 0x12, 3, 0x13, 4, 0x14, 5, 0x15, 6, 0x16, 7, 0x17, 8);
    x.load();
    for (int i = 0; i < 8; i++) {
      Check.due("register " + i, x.look(i), 0);
    }
  }

  // Terms, to load: "nothing was put out".
  static void loadClearsWhatWasPutOut() {
    SelfOpener x = after(2, 0xE0, 0, 0xE0, 0);
    Check.due("put out before", x.look(11), 2);
    x.load();
    Check.due("put out", x.look(11), 0);
    Check.answers("out(0)", Check.INDEX, () -> x.out(0));
  }

  // Terms, to load: "the machine runs", when it had stopped.
  static void loadBehindAStop() {
    SelfOpener x = after(1, 0x00, 0);
    Check.due("stopped", x.look(9), 1);
    x.load();
    Check.due("it runs", x.look(9), 0);
    Check.due("run", x.run(1, -1), 1);
  }

  // Terms, to load: "the machine runs", when it was broken.
  static void loadBehindABreak() {
    SelfOpener x = after(1, 0xF0, 0);
    Check.due("broken", x.look(9), 2);
    x.load();
    Check.due("it runs", x.look(9), 0);
    Check.due("run", x.run(1, -1), 1);
  }

  // Terms, to load: "and has made no step".
  static void loadForgetsTheSteps() {
    SelfOpener x = after(3, 0x10, 1, 0x10, 1, 0x10, 1);
    x.load();
    Check.due("steps", x.look(10), 0);
    x.run(2, -1);
    Check.due("steps since", x.look(10), 2);
  }

  // Promise 12: an empty program is loaded, too, wherever it stands.
  static void loadOfAnEmptyProgram() {
    SelfOpener x = after(1, 0x11, 9);
    x.cut(0);
    x.place(255, 3);
    x.load();
    Check.same("memory", Check.memoryOf(x), new int[256]);
    Check.due("place", x.look(8), 3);
    Check.due("it runs", x.look(9), 0);
  }

  // Promise 12: the entry may be outside of the program.
  static void loadWithAnEntryElsewhere() {
    SelfOpener x = Check.placed(100, 255, 1, 2);
    x.load();
    Check.due("place", x.look(8), 255);
    x.place(100, 0);
    x.load();
    Check.due("place", x.look(8), 0);
  }

  // Promise 12: origin and size together may be 256.
  static void loadUpToTheEnd() {
    SelfOpener x = Check.placed(253, 0, 1, 2, 3);
    Check.does("load", "nothing", x::load);
    Check.due("last byte", x.memory(255), 3);
    SelfOpener full = Check.placed(96, 0, Check.different(160));
    Check.does("load", "nothing", full::load);
    Check.due("last byte", full.memory(255), 159);
  }

  // Promise 12: "IllegalStateException when origin and size together are more than 256", by one.
  static void loadBeyondTheEnd() {
    loadLeaves(254, 1, 2, 3);
    loadLeaves(97, Check.different(160));
    loadLeaves(255, 1, 2);
  }

  // Promise 12: "more than 256 (not by 256)".
  static void loadFarBeyondTheEnd() {
    loadLeaves(255, Check.different(160));
  }

  private static void loadLeaves(int origin, int... bytes) {
    Check.leaves("load at " + origin, Check.STATE, () -> Check.workedWith(origin, bytes), x -> {
      x.load();
      return "nothing";
    });
  }

  // Terms: "0 it has stopped".
  static void kind0Stops() {
    SelfOpener x = after(1, 0x07, 1, 0x11, 1);
    Check.due("it has stopped", x.look(9), 1);
    Check.due("register 7", x.look(7), 0);
    Check.due("the place is 2 more", x.look(8), 2);
  }

  // Terms: "0 it has stopped", and nothing else: no register and no byte of memory is another.
  static void kind0DoesNothingElse() {
    SelfOpener x = after(3, 0x11, 9, 0x12, 77, 0x01, 2);
    Check.due("register 1", x.look(1), 9);
    Check.due("register 2", x.look(2), 77);
    Check.due("memory(77)", x.memory(77), 0);
    Check.due("put out", x.look(11), 0);
  }

  // Terms: "A STEP, if it runs": no step when it has stopped.
  static void noStepBehindAStop() {
    SelfOpener x = Check.program(0x00, 1, 0x11, 1);
    x.load();
    Check.due("run", x.run(10, -1), 1);
    Check.due("run again", x.run(10, -1), 0);
    Check.due("steps", x.look(10), 1);
    Check.due("place", x.look(8), 2);
    Check.due("register 1", x.look(1), 0);
  }

  // Terms: "15 it has stopped, and is BROKEN".
  static void kind15Breaks() {
    SelfOpener x = after(1, 0xFF, 1, 0x11, 1);
    Check.due("it is broken", x.look(9), 2);
    Check.due("register 7", x.look(7), 0);
    Check.due("the place is 2 more", x.look(8), 2);
  }

  // Terms: "15 it has stopped, and is BROKEN", and nothing else.
  static void kind15DoesNothingElse() {
    SelfOpener x = after(3, 0x11, 0x90, 0x12, 77, 0xF1, 2);
    Check.due("register 1", x.look(1), 0x90);
    Check.due("register 2", x.look(2), 77);
    Check.due("memory(77)", x.memory(77), 0);
    Check.due("put out", x.look(11), 0);
  }

  // Terms: "15 it has stopped": no step when it is broken.
  static void noStepBehindABreak() {
    SelfOpener x = Check.program(0xF0, 1, 0x11, 1);
    x.load();
    Check.due("run", x.run(10, -1), 1);
    Check.due("run again", x.run(10, -1), 0);
    Check.due("steps", x.look(10), 1);
    Check.due("it is broken", x.look(9), 2);
  }

  // Terms: "R the register x & 7", the first and the last.
  static void registersAtTheirEdges() {
    Check.due("register 0", after(1, 0x10, 200).look(0), 200);
    Check.due("register 7", after(1, 0x17, 200).look(7), 200);
  }

  // Terms: "(the bit 8 of x counts for nothing)".
  static void bit8CountsForNothing() {
    Check.due("1", after(1, 0x1B, 200).look(3), 200);
    Check.due("4", after(2, 0x1F, 200, 0x48, 9).look(0), 9);
    Check.due("0", after(1, 0x08, 0).look(9), 1);
    Check.due("14", after(2, 0x15, 6, 0xED, 0).out(0), 6);
    Check.due("15", after(1, 0xF8, 0).look(9), 2);
  }

  // Terms: "Q the register y & 7": its other bits count for nothing.
  static void onlyThreeBitsTellQ() {
    Check.due("2", after(2, 0x11, 9, 0x22, 0xF9).look(2), 9);
    Check.due("3", after(2, 0x17, 9, 0x32, 0x0F).look(2), 9);
    Check.due("5", after(2, 0x17, 3, 0x52, 0xFF).look(2), 0xFF);
    Check.due("6", after(2, 0x17, 77, 0x67, 0x0F).memory(77), 77);
  }

  // Terms: "1 R is y", at the edges of y.
  static void kind1() {
    Check.due("255", after(1, 0x13, 255).look(3), 255);
    Check.due("0", after(2, 0x13, 255, 0x13, 0).look(3), 0);
  }

  // Terms: "2 R is Q".
  static void kind2() {
    Check.due("of another", after(2, 0x11, 9, 0x22, 1).look(2), 9);
    Check.due("of itself", after(2, 0x11, 9, 0x21, 1).look(1), 9);
    Check.due("Q stays", after(2, 0x11, 9, 0x22, 1).look(1), 9);
  }

  // Terms: "3 R is R + Q", "sums ... are by 256".
  static void kind3() {
    Check.due("255", after(3, 0x11, 200, 0x12, 55, 0x31, 2).look(1), 255);
    Check.due("256", after(3, 0x11, 200, 0x12, 56, 0x31, 2).look(1), 0);
    Check.due("510", after(3, 0x11, 255, 0x12, 255, 0x31, 2).look(1), 254);
    Check.due("of itself", after(2, 0x11, 0x90, 0x31, 1).look(1), 0x20);
  }

  // Terms: "4 R is R + y", "sums ... are by 256".
  static void kind4() {
    Check.due("255", after(2, 0x11, 250, 0x41, 5).look(1), 255);
    Check.due("256", after(2, 0x11, 250, 0x41, 6).look(1), 0);
    Check.due("510", after(2, 0x11, 255, 0x41, 255).look(1), 254);
    Check.due("0", after(2, 0x11, 250, 0x41, 0).look(1), 250);
  }

  // Terms: "5 R is the byte at the address Q", at the edges of addresses.
  static void kind5() {
    Check.due("at 0", after(1, 0x51, 7).look(1), 0x51);
    Check.due("at 3", after(2, 0x11, 3, 0x52, 1).look(2), 1);
    Check.due("at 255", after(4, 0x11, 255, 0x12, 88, 0x62, 1, 0x53, 1).look(3), 88);
    Check.due("into its address", after(2, 0x11, 1, 0x51, 1).look(1), 1);
  }

  // Terms: "6 the byte at the address Q is R", at the edges of addresses.
  static void kind6() {
    Check.due("at 77", after(3, 0x11, 99, 0x12, 77, 0x61, 2).memory(77), 99);
    Check.due("at 255", after(3, 0x11, 99, 0x12, 255, 0x61, 2).memory(255), 99);
    Check.due("at 0", after(2, 0x11, 99, 0x61, 2).memory(0), 99);
    Check.due("R stays", after(2, 0x11, 99, 0x61, 2).look(1), 99);
    Check.due("at its own address", after(2, 0x11, 99, 0x61, 1).memory(99), 99);
  }

  // Terms: "x and y are the bytes at the place and the one behind it", as they are by then.
  static void kind6WritesWhatRunsNext() {
    SelfOpener x = after(4, 0x11, 0x14, 0x12, 6, 0x61, 2, 0xF0, 9);
    Check.due("it runs", x.look(9), 0);
    Check.due("register 4", x.look(4), 9);
  }

  // Terms: "7 R is R - Q", "differences ... are by 256".
  static void kind7() {
    Check.due("0", after(3, 0x11, 5, 0x12, 5, 0x71, 2).look(1), 0);
    Check.due("-1", after(3, 0x11, 4, 0x12, 5, 0x71, 2).look(1), 255);
    Check.due("-255", after(2, 0x12, 255, 0x71, 2).look(1), 1);
    Check.due("of itself", after(2, 0x11, 0x90, 0x71, 1).look(1), 0);
  }

  // Terms: "8 the place is y", at the edges of addresses.
  static void kind8() {
    Check.due("77", after(1, 0x80, 77).look(8), 77);
    Check.due("255", after(1, 0x80, 255).look(8), 255);
    Check.due("0", after(1, 0x80, 0).look(8), 0);
    Check.due("whatever R is", after(2, 0x11, 1, 0x81, 77).look(8), 77);
  }

  // Terms: "9 the place is y if R is 0": it is.
  static void kind9OfZero() {
    Check.due("place", after(1, 0x95, 77).look(8), 77);
  }

  // Terms: "9 the place is y if R is 0": it is not.
  static void kind9OfOthers() {
    Check.due("1", after(2, 0x15, 1, 0x95, 77).look(8), 4);
    Check.due("128", after(2, 0x15, 128, 0x95, 77).look(8), 4);
    Check.due("255", after(2, 0x15, 255, 0x95, 77).look(8), 4);
  }

  // Terms: "10 the place is y if R is above 127": it is.
  static void kind10Above127() {
    Check.due("128", after(2, 0x15, 128, 0xA5, 77).look(8), 77);
    Check.due("255", after(2, 0x15, 255, 0xA5, 77).look(8), 77);
  }

  // Terms: "10 the place is y if R is above 127": it is not.
  static void kind10UpTo127() {
    Check.due("127", after(2, 0x15, 127, 0xA5, 77).look(8), 4);
    Check.due("1", after(2, 0x15, 1, 0xA5, 77).look(8), 4);
    Check.due("0", after(1, 0xA5, 77).look(8), 2);
  }

  // Terms: "11 the place is R", at the edges of addresses.
  static void kind11() {
    Check.due("90", after(2, 0x15, 90, 0xB5, 77).look(8), 90);
    Check.due("255", after(2, 0x15, 255, 0xB5, 77).look(8), 255);
    Check.due("0", after(1, 0xB5, 77).look(8), 0);
  }

  // Terms: "12 R is R & Q".
  static void kind12() {
    Check.due("of others", after(3, 0x11, 0x3C, 0x12, 0x66, 0xC1, 2).look(1), 0x24);
    Check.due("of all bits", after(3, 0x11, 255, 0x12, 255, 0xC1, 2).look(1), 255);
    Check.due("of none", after(2, 0x11, 255, 0xC1, 2).look(1), 0);
  }

  // Terms: "13 R is R >> (y & 7)", from none to seven.
  static void kind13() {
    Check.due(">> 0", after(2, 0x11, 0x90, 0xD1, 0).look(1), 0x90);
    Check.due(">> 1", after(2, 0x11, 0xFF, 0xD1, 1).look(1), 0x7F);
    Check.due(">> 7", after(2, 0x11, 0xFF, 0xD1, 7).look(1), 1);
  }

  // Terms: "13 R is R >> (y & 7)": its other bits count for nothing.
  static void kind13By8() {
    Check.due(">> 8", after(2, 0x11, 0x90, 0xD1, 8).look(1), 0x90);
    Check.due(">> 255", after(2, 0x11, 0x90, 0xD1, 255).look(1), 1);
    Check.due(">> 0xFB", after(2, 0x11, 0x90, 0xD1, 0xFB).look(1), 0x12);
  }

  // Terms: "14 R is put out".
  static void kind14() {
    SelfOpener x = after(3, 0x11, 255, 0xE1, 8, 0xE2, 8);
    Check.due("out(0)", x.out(0), 255);
    Check.due("out(1)", x.out(1), 0);
    Check.due("put out", x.look(11), 2);
    Check.due("R stays", x.look(1), 255);
  }

  // Terms: "the place is 2 more", by 256: from 254 to 0.
  static void placeGoesRoundTo0() {
    SelfOpener x = Check.placed(254, 254, 0x11, 7);
    x.load();
    Check.due("run", x.run(1, -1), 1);
    Check.due("place", x.look(8), 0);
    Check.due("register 1", x.look(1), 7);
  }

  // Terms: "the place is 2 more", by 256: from 255 to 1.
  static void placeGoesRoundTo1() {
    SelfOpener x = atTheEnd(0x15, 66);
    Check.due("run", x.run(1, -1), 1);
    Check.due("place", x.look(8), 1);
  }

  // Terms: "the one behind it", of the last address the first.
  static void behindTheLastAddressIsTheFirst() {
    SelfOpener x = atTheEnd(0x15, 66);
    x.run(1, -1);
    Check.due("register 5", x.look(5), 66);
  }

  // Promise 14: "So many steps at most": none.
  static void runOfNoSteps() {
    SelfOpener x = Check.program(0x40, 1);
    x.load();
    Check.due("run", x.run(0, -1), 0);
    Check.due("run until 0", x.run(0, 0), 0);
    Check.due("steps", x.look(10), 0);
    Check.due("place", x.look(8), 0);
  }

  // Promise 14: "So many steps at most": one.
  static void runOfOneStep() {
    SelfOpener x = Check.program(0x40, 1, 0x40, 1);
    x.load();
    Check.due("run", x.run(1, -1), 1);
    Check.due("register 0", x.look(0), 1);
  }

  // Promise 14: "So many steps at most": 4000.
  static void runOfTheMostSteps() {
    SelfOpener x = Check.program(0x40, 1, 0x80, 0);
    x.load();
    Check.due("run", x.run(4000, -1), 4000);
    Check.due("steps", x.look(10), 4000);
    Check.due("register 0", x.look(0), 2000 % 256);
  }

  // Promise 14: "as long as it runs": how many steps were made up to a stop, with that.
  static void runUpToAStop() {
    SelfOpener x = Check.program(0x40, 1, 0x40, 1, 0x00, 0);
    x.load();
    Check.due("run", x.run(4000, -1), 3);
  }

  // Promise 14: "as long as it runs": a stop with the last step.
  static void runOfAsManyAsUpToAStop() {
    SelfOpener x = Check.program(0x40, 1, 0x00, 0);
    x.load();
    Check.due("run", x.run(2, -1), 2);
    Check.due("it has stopped", x.look(9), 1);
  }

  // Promise 14: "only as long as the place is not that (before each step, the first one, too)".
  static void runUntilWhereItIs() {
    SelfOpener x = Check.program(0x40, 1, 0x80, 0);
    x.load();
    Check.due("run", x.run(4000, 0), 0);
    Check.due("steps", x.look(10), 0);
    Check.due("it runs", x.look(9), 0);
  }

  // Promise 14: "before each step".
  static void runUntilAnAddress() {
    SelfOpener x = Check.program(0x40, 1, 0x40, 1, 0x80, 0);
    x.load();
    Check.due("run until 4", x.run(4000, 4), 2);
    Check.due("place", x.look(8), 4);
    Check.due("run until 0", x.run(4000, 0), 1);
  }

  // Promise 14: the place that counts is where a step begins, not what it passes.
  static void runUntilAnAddressThatNoStepBeginsAt() {
    SelfOpener x = Check.program(0x40, 1, 0x80, 0);
    x.load();
    Check.due("run until 1", x.run(9, 1), 9);
  }

  // Promise 14: "until not -1 .. 255": -1 is none.
  static void runUntilNone() {
    SelfOpener x = Check.placed(0, 255, 0x40, 1);
    x.load();
    Check.due("run at 255", x.run(1, -1), 1);
  }

  // Promise 14: "if until is an address": the last one.
  static void runUntil255() {
    SelfOpener x = Check.program(0x40, 1, 0x80, 255);
    x.load();
    Check.due("run until 255", x.run(9, 255), 2);
    Check.due("place", x.look(8), 255);
  }

  // Promise 14: "if until is an address": the first one.
  static void runUntil0() {
    SelfOpener x = Check.placed(252, 252, 0x40, 1, 0x40, 1);
    x.load();
    Check.due("run until 0", x.run(9, 0), 2);
    Check.due("place", x.look(8), 0);
  }

  // Promise 14: "IllegalArgumentException when steps is not 0 .. 4000", below.
  static void runOfFewerThanNone() {
    runLeaves(-1, -1);
    runLeaves(Check.LEAST, -1);
  }

  // Promise 14: "IllegalArgumentException when steps is not 0 .. 4000", above.
  static void runOfTooMany() {
    runLeaves(4001, -1);
    runLeaves(Check.MOST, -1);
  }

  // Promise 14: "or until not -1 .. 255", below.
  static void runUntilBelowNone() {
    runLeaves(9, -2);
    runLeaves(9, Check.LEAST);
  }

  // Promise 14: "or until not -1 .. 255", above.
  static void runUntilNoAddress() {
    runLeaves(9, 256);
    runLeaves(9, Check.MOST);
  }

  // Promise 14: the exception comes when no step would be made, too.
  static void wrongRunWithoutAStep() {
    runLeaves(0, 256);
    Check.leaves("run of a new one", Check.ARGUMENT, SelfOpener::new, x -> x.run(4001, -1));
    Check.leaves("run of a new one", Check.ARGUMENT, SelfOpener::new, x -> x.run(1, 256));
    Check.leaves("run of a new one", Check.ARGUMENT, SelfOpener::new, x -> x.run(-1, 0));
  }

  private static void runLeaves(int steps, int until) {
    Check.leaves("run(" + steps + ", " + until + ")", Check.ARGUMENT, Check::worked, x -> x.run(steps, until));
  }

  // Promise 15: what it is, one by one.
  static void lookAtAll() {
    SelfOpener x = after(9, 0x10, 1, 0x11, 2, 0x12, 3, 0x13, 4, 0x14, 5, 0x15, 6, 0x16, 7, 0x17, 8, 0xE0, 0);
    for (int i = 0; i < 8; i++) {
      Check.due("register " + i, x.look(i), i + 1);
    }
    Check.due("place", x.look(8), 18);
    Check.due("it runs", x.look(9), 0);
    Check.due("steps", x.look(10), 9);
    Check.due("put out", x.look(11), 1);
  }

  // Promise 15: "how many steps it made since it was loaded", over many runs, also without end.
  static void lookAtTheStepsOfManyRuns() {
    SelfOpener x = Check.program(0xE0, 0, 0x80, 0);
    x.load();
    for (int i = 0; i < 500; i++) {
      x.run(4000, -1);
    }
    Check.due("steps", x.look(10), 2000000);
    Check.due("put out", x.look(11), 1000000);
    Check.answers("out(999999)", "0", () -> x.out(999999));
    Check.answers("out(999968)", "0", () -> x.out(999968));
    Check.answers("out(999967)", Check.INDEX, () -> x.out(999967));
  }

  // Promise 15: "IndexOutOfBoundsException when it is another number", below.
  static void lookBelow() {
    Check.leaves("look(-1)", Check.INDEX, Check::worked, x -> x.look(-1));
    Check.leaves("look(LEAST)", Check.INDEX, Check::worked, x -> x.look(Check.LEAST));
  }

  // Promise 15: "IndexOutOfBoundsException when it is another number", above.
  static void lookAbove() {
    Check.leaves("look(12)", Check.INDEX, Check::worked, x -> x.look(12));
    Check.leaves("look(MOST)", Check.INDEX, Check::worked, x -> x.look(Check.MOST));
    Check.leaves("look(12) of a new one", Check.INDEX, SelfOpener::new, x -> x.look(12));
  }

  // Promise 16: the first and the last address.
  static void memoryAtItsEdges() {
    SelfOpener x = after(4, 0x11, 99, 0x12, 255, 0x61, 2, 0x61, 3);
    Check.due("memory(0)", x.memory(0), 99);
    Check.due("memory(255)", x.memory(255), 99);
  }

  // Promise 16: "IndexOutOfBoundsException when there is no such address", below.
  static void memoryBelow() {
    Check.leaves("memory(-1)", Check.INDEX, Check::worked, x -> x.memory(-1));
    Check.leaves("memory(LEAST)", Check.INDEX, Check::worked, x -> x.memory(Check.LEAST));
  }

  // Promise 16: "IndexOutOfBoundsException when there is no such address", above.
  static void memoryAbove() {
    Check.leaves("memory(256)", Check.INDEX, Check::worked, x -> x.memory(256));
    Check.leaves("memory(MOST)", Check.INDEX, Check::worked, x -> x.memory(Check.MOST));
    Check.leaves("memory(256) of a new one", Check.INDEX, SelfOpener::new, x -> x.memory(256));
  }

  /** A machine that has put out so many bytes: 1, 2, 3 and so on, by 256. */
  private static SelfOpener counted(int n) {
    SelfOpener x = Check.program(0x40, 1, 0xE0, 0, 0x80, 0);
    x.load();
    Check.due("run", x.run(3 * n, -1), 3 * n);
    Check.due("put out", x.look(11), n);
    return x;
  }

  // Promise 17: "Byte i that was put out (0 the first)".
  static void outOfTheFirst() {
    Check.answers("out(0) of 1", "1", () -> counted(1).out(0));
    Check.answers("out(0) of 2", "1", () -> counted(2).out(0));
    Check.answers("out(1) of 2", "2", () -> counted(2).out(1));
  }

  // Promise 17: "IndexOutOfBoundsException when there is none", when nothing was put out.
  static void outOfNothing() {
    Check.leaves("out(0)", Check.INDEX, () -> counted(0), x -> x.out(0));
    Check.leaves("out(-1)", Check.INDEX, () -> counted(0), x -> x.out(-1));
  }

  // Promise 17: "IndexOutOfBoundsException when there is none", below.
  static void outBeforeTheFirst() {
    Check.leaves("out(-1)", Check.INDEX, () -> counted(2), x -> x.out(-1));
    Check.leaves("out(-1)", Check.INDEX, () -> counted(32), x -> x.out(-1));
    Check.leaves("out(LEAST)", Check.INDEX, () -> counted(2), x -> x.out(Check.LEAST));
  }

  // Promise 17: "IndexOutOfBoundsException when there is none", behind the last.
  static void outBehindTheLast() {
    Check.leaves("out(2)", Check.INDEX, () -> counted(2), x -> x.out(2));
    Check.leaves("out(32)", Check.INDEX, () -> counted(32), x -> x.out(32));
    Check.leaves("out(300)", Check.INDEX, () -> counted(300), x -> x.out(300));
    Check.leaves("out(MOST)", Check.INDEX, () -> counted(2), x -> x.out(Check.MOST));
  }

  // Terms: "(the latest 32 are kept)", when there are 32.
  static void outOf32() {
    SelfOpener x = counted(32);
    for (int i = 0; i < 32; i++) {
      int k = i;
      Check.answers("out(" + i + ")", "" + (i + 1), () -> x.out(k));
    }
  }

  // Promise 17: "or it is not kept any more": the first of 33.
  static void outOf33() {
    Check.leaves("out(0)", Check.INDEX, () -> counted(33), x -> x.out(0));
    Check.answers("out(1)", "2", () -> counted(33).out(1));
    Check.answers("out(32)", "33", () -> counted(33).out(32));
  }

  // Promise 17: "or it is not kept any more", when the rows have been used many times.
  static void outOf300() {
    SelfOpener x = counted(300);
    for (int i = 268; i < 300; i++) {
      int k = i;
      Check.answers("out(" + i + ")", "" + (i + 1) % 256, () -> x.out(k));
    }
    Check.answers("out(267)", Check.INDEX, () -> x.out(267));
    Check.answers("out(0)", Check.INDEX, () -> x.out(0));
  }

  // Promise 17: what was put out stays when the machine stops, and when it is broken.
  static void outBehindAStop() {
    Check.due("stopped", after(3, 0x11, 9, 0xE1, 0, 0x00, 0).out(0), 9);
    Check.due("broken", after(3, 0x11, 9, 0xE1, 0, 0xF0, 0).out(0), 9);
  }

  // Terms: any bytes, beside a machine written another way.
  static void anyBytes() {
    Random random = new Random(17);
    for (int k = 0; k < 3000; k++) {
      int[] bytes = new int[1 + random.nextInt(160)];
      for (int i = 0; i < bytes.length; i++) {
        boolean likely = i % 2 == 0 && random.nextInt(10) > 0;
        bytes[i] = likely ? 16 + random.nextInt(224) : random.nextInt(256);
      }
      int origin = random.nextInt(Math.min(256, 257 - bytes.length));
      int entry = random.nextInt(4) == 0 ? random.nextInt(256) : origin;
      SelfOpener x = Check.placed(origin, entry, bytes);
      Model model = new Model();
      for (int v : bytes) {
        model.put(v, 1);
      }
      model.place(origin, entry);
      x.load();
      model.load();
      for (int part = 0; part < 4; part++) {
        int steps = random.nextInt(60);
        int until = random.nextInt(257) - 1;
        Check.due("run of program " + k, x.run(steps, until), model.run(steps, until));
        beside(x, model, "program " + k);
      }
      for (int i = 0; i < 256; i++) {
        Check.due("program " + k + ": memory(" + i + ")", x.memory(i), model.memory(i));
      }
    }
  }

  private static void beside(SelfOpener x, Model model, String what) {
    int[] got = new int[12];
    int[] want = new int[12];
    for (int i = 0; i < 12; i++) {
      got[i] = x.look(i);
      want[i] = model.look(i);
    }
    Check.same(what + ": look", got, want);
    int[] out = new int[Math.min(32, model.look(11))];
    int[] wantOut = out.clone();
    for (int i = 0; i < out.length; i++) {
      out[i] = x.out(model.look(11) - out.length + i);
      wantOut[i] = model.out(model.look(11) - out.length + i);
    }
    Check.same(what + ": out " + Arrays.toString(want), out, wantOut);
  }
}
