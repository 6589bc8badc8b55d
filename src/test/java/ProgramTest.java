/** Promises 1 to 7: a new object, and what changes the program. */
public final class ProgramTest {
  public static void main(String[] args) {
    Check.run(ProgramTest.class);
  }

  // Promise 1: "An empty program".
  static void newProgramIsEmpty() {
    SelfOpener x = new SelfOpener();
    Check.due("size", x.size(), 0);
    Check.due("packed", x.packed(), 1);
    Check.due("stream(0)", x.stream(0), 0);
    Check.due("gap", x.gap(), 1);
  }

  // Terms: "at first no bytes, both 0".
  static void newOriginIsZero() {
    SelfOpener x = Check.program(77);
    x.load();
    Check.due("memory(0)", x.memory(0), 77);
  }

  // Terms: "at first no bytes, both 0".
  static void newEntryIsZero() {
    SelfOpener x = new SelfOpener();
    x.load();
    Check.due("place", x.look(8), 0);
    x.loadPacked();
    Check.due("the stub's entry", x.memory(60), 0);
  }

  // Promise 1: "the machine has stopped, is not broken".
  static void newMachineHasStopped() {
    Check.due("look(9)", new SelfOpener().look(9), 1);
  }

  // Promise 1: "the machine has stopped", so that run makes no step.
  static void newMachineMakesNoStep() {
    SelfOpener x = new SelfOpener();
    Check.due("run", x.run(4000, -1), 0);
    Check.due("steps", x.look(10), 0);
    Check.due("place", x.look(8), 0);
    Check.due("it has stopped", x.look(9), 1);
  }

  // Promise 1: "and has nothing (its place is 0)"; Promise 16: "all 0 before anything is loaded".
  static void newMachineHasNothing() {
    SelfOpener x = new SelfOpener();
    for (int i = 0; i <= 11; i++) {
      Check.due("look(" + i + ")", x.look(i), i == 9 ? 1 : 0);
    }
    Check.same("memory", Check.memoryOf(x), new int[256]);
  }

  // Promise 1 and 17: nothing was put out.
  static void newMachineHasPutOutNothing() {
    Check.leaves("out(0)", Check.INDEX, SelfOpener::new, x -> x.out(0));
  }

  // Promise 2: "n bytes come behind the program, the lowest 8 bits of w first".
  static void putTakesTheLowestFirst() {
    SelfOpener x = new SelfOpener();
    Check.due("put(.., 3)", x.put(0x030201L, 3), true);
    Check.due("put(.., 2)", x.put(0x0504L, 2), true);
    Check.same("bytes", Check.bytesOf(x), 1, 2, 3, 4, 5);
  }

  // Promise 2: n is the least that goes.
  static void putOfOne() {
    SelfOpener x = new SelfOpener();
    Check.due("put(0x2211, 1)", x.put(0x2211L, 1), true);
    Check.same("the higher bits are left out", Check.bytesOf(x), 0x11);
  }

  // Promise 2: n is the most that goes.
  static void putOfEight() {
    SelfOpener x = new SelfOpener();
    Check.due("put(.., 8)", x.put(0x8877665544332211L, 8), true);
    Check.same("bytes", Check.bytesOf(x), 0x11, 0x22, 0x33, 0x44, 0x55, 0x66, 0x77, 0x88);
  }

  // Terms: "All BYTES are 0 .. 255", of a negative w, too.
  static void putOfANegative() {
    SelfOpener x = new SelfOpener();
    Check.due("put(-1, 8)", x.put(-1, 8), true);
    Check.due("put(MIN, 8)", x.put(Long.MIN_VALUE, 8), true);
    Check.same("bytes", Check.bytesOf(x), 255, 255, 255, 255, 255, 255, 255, 255, 0, 0, 0, 0, 0, 0, 0, 128);
  }

  // Promise 2: "False, changing nothing, when n is not 1 .. 8", just below.
  static void putOfNone() {
    Check.leaves("put(1, 0)", "false", Check::worked, x -> x.put(1, 0));
    Check.leaves("put(1, 0) of none", "false", SelfOpener::new, x -> x.put(1, 0));
  }

  // Promise 2: "False, changing nothing, when n is not 1 .. 8", far below.
  static void putOfFewerThanNone() {
    Check.leaves("put(1, -1)", "false", Check::worked, x -> x.put(1, -1));
    Check.leaves("put(1, LEAST)", "false", Check::worked, x -> x.put(1, Check.LEAST));
  }

  // Promise 2: "False, changing nothing, when n is not 1 .. 8", just above.
  static void putOfNine() {
    Check.leaves("put(1, 9)", "false", Check::worked, x -> x.put(1, 9));
  }

  // Promise 2: "False, changing nothing, when n is not 1 .. 8", far above.
  static void putOfMany() {
    Check.leaves("put(1, 64)", "false", Check::worked, x -> x.put(1, 64));
    Check.leaves("put(1, MOST)", "false", Check::worked, x -> x.put(1, Check.MOST));
  }

  // Promise 2: the program may come to have 160, in one step or in many.
  static void putFillsTheProgram() {
    for (int n = 1; n <= 8; n++) {
      SelfOpener x = Check.program(Check.different(160 - n));
      Check.due("put of " + n, x.put(0x0807060504030201L, n), true);
      Check.due("size", x.size(), 160);
      x.load();
      Check.due("byte 160 - n", x.memory(160 - n), 1);
      Check.due("byte 159", x.memory(159), n);
    }
  }

  // Promise 2: "or it would have more than 160", by one.
  static void putBeyondTheProgram() {
    for (int n = 1; n <= 8; n++) {
      int k = n;
      Check.leaves("put of " + n, "false", () -> Check.program(Check.different(161 - k)), x -> x.put(-1, k));
    }
  }

  // Promise 2: "or it would have more than 160", when it is full.
  static void putBehindAFullProgram() {
    Check.leaves("put of 8", "false", () -> Check.program(Check.different(160)), x -> x.put(-1, 8));
  }

  // Promise 2: what was refused does not hinder what fits.
  static void putBehindARefusedPut() {
    SelfOpener x = Check.program(Check.different(159));
    Check.due("put of 2", x.put(-1, 2), false);
    Check.due("put of 1", x.put(-1, 1), true);
    Check.due("size", x.size(), 160);
  }

  // Promise 3: "from a distance d before its end on, come behind it once more, n bytes".
  static void againOfFewerThanItsDistance() {
    SelfOpener x = Check.program(7, 8, 9);
    Check.due("again(3, 2)", x.again(3, 2), true);
    Check.same("bytes", Check.bytesOf(x), 7, 8, 9, 7, 8);
  }

  // Promise 3: "one after the other", so that it goes on with its own bytes.
  static void againOfMoreThanItsDistance() {
    SelfOpener x = Check.program(7, 8, 9);
    Check.due("again(2, 5)", x.again(2, 5), true);
    Check.same("bytes", Check.bytesOf(x), 7, 8, 9, 8, 9, 8, 9, 8);
  }

  // Promise 3: d is the least that goes.
  static void againAtOne() {
    SelfOpener x = Check.program(7, 8);
    Check.due("again(1, 3)", x.again(1, 3), true);
    Check.same("bytes", Check.bytesOf(x), 7, 8, 8, 8, 8);
  }

  // Promise 3: d is "as many as it has", the most that goes.
  static void againFromTheFirstByte() {
    SelfOpener x = Check.program(7, 8, 9);
    Check.due("again(3, 3)", x.again(3, 3), true);
    Check.same("bytes", Check.bytesOf(x), 7, 8, 9, 7, 8, 9);
    SelfOpener one = Check.program(7);
    Check.due("again(1, 1)", one.again(1, 1), true);
    Check.same("bytes", Check.bytesOf(one), 7, 7);
  }

  // Promise 3: n is not negative: it may be 0.
  static void againOfNone() {
    Check.leaves("again(1, 0)", "true", Check::worked, x -> x.again(1, 0));
    Check.leaves("again(10, 0)", "true", Check::worked, x -> x.again(10, 0));
  }

  // Promise 3: "False, changing nothing, when d is not 1 .. as many as it has", below.
  static void againAtZero() {
    Check.leaves("again(0, 1)", "false", Check::worked, x -> x.again(0, 1));
    Check.leaves("again(0, 0)", "false", Check::worked, x -> x.again(0, 0));
  }

  // Promise 3: d is negative.
  static void againAtANegative() {
    Check.leaves("again(-1, 1)", "false", Check::worked, x -> x.again(-1, 1));
    Check.leaves("again(LEAST, 1)", "false", Check::worked, x -> x.again(Check.LEAST, 1));
  }

  // Promise 3: d is more than it has.
  static void againBeforeTheFirstByte() {
    Check.leaves("again(11, 1)", "false", Check::worked, x -> x.again(11, 1));
    Check.leaves("again(11, 0)", "false", Check::worked, x -> x.again(11, 0));
    Check.leaves("again(MOST, 1)", "false", Check::worked, x -> x.again(Check.MOST, 1));
  }

  // Promise 3: d is more than it has: what was cut off is not there any more.
  static void againOfWhatWasCut() {
    SelfOpener x = Check.program(7, 8, 9);
    x.cut(1);
    Check.due("again(2, 1)", x.again(2, 1), false);
    Check.due("again(1, 1)", x.again(1, 1), true);
    Check.same("bytes", Check.bytesOf(x), 7, 7);
  }

  // Promise 3: an empty program has no d that goes.
  static void againOfAnEmptyProgram() {
    Check.leaves("again(1, 0)", "false", SelfOpener::new, x -> x.again(1, 0));
    Check.leaves("again(0, 0)", "false", SelfOpener::new, x -> x.again(0, 0));
    Check.leaves("again(1, 1)", "false", SelfOpener::new, x -> x.again(1, 1));
  }

  // Promise 3: "n is negative".
  static void againOfANegative() {
    Check.leaves("again(1, -1)", "false", Check::worked, x -> x.again(1, -1));
    Check.leaves("again(1, LEAST)", "false", Check::worked, x -> x.again(1, Check.LEAST));
  }

  // Promise 3: the program may come to have 160.
  static void againFillsTheProgram() {
    SelfOpener x = Check.program(7, 8, 9);
    Check.due("again(3, 157)", x.again(3, 157), true);
    int[] want = new int[160];
    for (int i = 0; i < 160; i++) {
      want[i] = 7 + i % 3;
    }
    Check.same("bytes", Check.bytesOf(x), want);
  }

  // Promise 3: "or it would have more than 160", by one.
  static void againBeyondTheProgram() {
    Check.leaves("again(3, 158)", "false", () -> Check.program(7, 8, 9), x -> x.again(3, 158));
    Check.leaves("again(1, 151)", "false", Check::worked, x -> x.again(1, 151));
  }

  // Promise 3: "or it would have more than 160", by so many that a sum could turn round.
  static void againFarBeyondTheProgram() {
    Check.leaves("again(1, MOST)", "false", Check::worked, x -> x.again(1, Check.MOST));
  }

  // Promise 3: "or it would have more than 160", when it is full.
  static void againBehindAFullProgram() {
    Check.leaves("again(160, 1)", "false", () -> Check.program(Check.different(160)), x -> x.again(160, 1));
    Check.leaves("again(160, 0)", "true", () -> Check.program(Check.different(160)), x -> x.again(160, 0));
  }

  // Promise 4: "Byte i of the program changes", the first.
  static void changeOfTheFirst() {
    SelfOpener x = Check.program(1, 2, 3);
    x.change(0, 9);
    Check.same("bytes", Check.bytesOf(x), 9, 2, 3);
  }

  // Promise 4: "Byte i of the program changes", the last.
  static void changeOfTheLast() {
    SelfOpener x = Check.program(1, 2, 3);
    x.change(2, 9);
    Check.same("bytes", Check.bytesOf(x), 1, 2, 9);
    SelfOpener full = Check.program(Check.different(160));
    full.change(159, 9);
    full.load();
    Check.due("byte 159", full.memory(159), 9);
  }

  // Promise 4: v is the least and the most that goes.
  static void changeToTheEdges() {
    SelfOpener x = Check.program(1, 2, 3);
    x.change(0, 255);
    x.change(1, 0);
    Check.same("bytes", Check.bytesOf(x), 255, 0, 3);
  }

  // Promise 4: "IndexOutOfBoundsException when there is none", below.
  static void changeBeforeTheFirst() {
    changeLeaves(Check.INDEX, -1, 1);
    changeLeaves(Check.INDEX, Check.LEAST, 1);
  }

  // Promise 4: "IndexOutOfBoundsException when there is none", behind the last.
  static void changeBehindTheLast() {
    changeLeaves(Check.INDEX, 10, 1);
    changeLeaves(Check.INDEX, Check.MOST, 1);
  }

  // Promise 4: "when there is none": what was cut off is not there any more.
  static void changeOfWhatWasCut() {
    SelfOpener x = Check.program(1, 2, 3);
    x.cut(2);
    Check.does("change(2, 9)", Check.INDEX, () -> x.change(2, 9));
    Check.add(x, 4);
    Check.same("bytes", Check.bytesOf(x), 1, 2, 4);
  }

  // Promise 4: "when there is none", of an empty program.
  static void changeOfAnEmptyProgram() {
    Check.leaves("change(0, 0)", Check.INDEX, SelfOpener::new, x -> change(x, 0, 0));
  }

  // Promise 4: "IllegalArgumentException when v is not 0 .. 255", below.
  static void changeToANegative() {
    changeLeaves(Check.ARGUMENT, 0, -1);
    changeLeaves(Check.ARGUMENT, 9, Check.LEAST);
  }

  // Promise 4: "IllegalArgumentException when v is not 0 .. 255", above.
  static void changeToMoreThanAByte() {
    changeLeaves(Check.ARGUMENT, 9, 256);
    changeLeaves(Check.ARGUMENT, 0, Check.MOST);
  }

  // Terms: "where several exceptions that a call names fit, it is the one that it names first".
  static void changeWrongInBoth() {
    changeLeaves(Check.INDEX, 10, 256);
    changeLeaves(Check.INDEX, -1, -1);
  }

  private static void changeLeaves(String want, int i, int v) {
    Check.leaves("change(" + i + ", " + v + ")", want, Check::worked, x -> change(x, i, v));
  }

  private static Object change(SelfOpener x, int i, int v) {
    x.change(i, v);
    return "nothing";
  }

  // Promise 5: "The program keeps its first n bytes".
  static void cutKeepsTheFirst() {
    SelfOpener x = Check.program(1, 2, 3, 4);
    x.cut(2);
    Check.due("size", x.size(), 2);
    Check.add(x, 9);
    Check.same("bytes", Check.bytesOf(x), 1, 2, 9);
  }

  // Promise 5: n is 0.
  static void cutToNone() {
    SelfOpener x = Check.program(1, 2, 3, 4);
    x.cut(0);
    Check.due("size", x.size(), 0);
    Check.due("packed", x.packed(), 1);
    SelfOpener none = new SelfOpener();
    Check.does("cut(0) of none", "nothing", () -> none.cut(0));
  }

  // Promise 5: n is as many as it has.
  static void cutToAll() {
    Check.leaves("cut(10)", "nothing", Check::worked, x -> cut(x, 10));
    Check.leaves("cut(160)", "nothing", () -> Check.program(Check.different(160)), x -> cut(x, 160));
  }

  // Promise 5: "IllegalArgumentException when n is negative".
  static void cutToANegative() {
    Check.leaves("cut(-1)", Check.ARGUMENT, Check::worked, x -> cut(x, -1));
    Check.leaves("cut(LEAST)", Check.ARGUMENT, Check::worked, x -> cut(x, Check.LEAST));
  }

  // Promise 5: "or it has not so many".
  static void cutToMore() {
    Check.leaves("cut(11)", Check.ARGUMENT, Check::worked, x -> cut(x, 11));
    Check.leaves("cut(MOST)", Check.ARGUMENT, Check::worked, x -> cut(x, Check.MOST));
    Check.leaves("cut(161)", Check.ARGUMENT, () -> Check.program(Check.different(160)), x -> cut(x, 161));
    Check.leaves("cut(1) of none", Check.ARGUMENT, SelfOpener::new, x -> cut(x, 1));
  }

  // Promise 5: "or it has not so many": what was cut off does not come back.
  static void cutToWhatWasCut() {
    SelfOpener x = Check.program(1, 2, 3, 4);
    x.cut(2);
    Check.does("cut(3)", Check.ARGUMENT, () -> x.cut(3));
    Check.due("size", x.size(), 2);
  }

  private static Object cut(SelfOpener x, int n) {
    x.cut(n);
    return "nothing";
  }

  // Promise 6: "Origin and entry".
  static void placeOfBoth() {
    SelfOpener x = Check.placed(20, 30, 5, 6);
    x.load();
    Check.due("entry", x.look(8), 30);
    Check.due("first byte", x.memory(20), 5);
    Check.due("second byte", x.memory(21), 6);
  }

  // Promise 6: both are the most that goes.
  static void placeAtTheEnd() {
    SelfOpener x = Check.placed(255, 255, 5);
    x.load();
    Check.due("entry", x.look(8), 255);
    Check.due("first byte", x.memory(255), 5);
  }

  // Promise 6: both are the least that goes.
  static void placeAtTheBeginning() {
    SelfOpener x = Check.placed(20, 30, 5);
    x.place(0, 0);
    x.load();
    Check.due("entry", x.look(8), 0);
    Check.due("first byte", x.memory(0), 5);
  }

  // Promise 6: "IllegalArgumentException when one is not 0 .. 255", the origin below.
  static void placeOfANegativeOrigin() {
    placeLeaves(-1, 9);
    placeLeaves(Check.LEAST, 9);
  }

  // Promise 6: the origin above.
  static void placeOfAnOriginTooLarge() {
    placeLeaves(256, 9);
    placeLeaves(Check.MOST, 9);
  }

  // Promise 6: the entry below.
  static void placeOfANegativeEntry() {
    placeLeaves(9, -1);
    placeLeaves(9, Check.LEAST);
  }

  // Promise 6: the entry above.
  static void placeOfAnEntryTooLarge() {
    placeLeaves(9, 256);
    placeLeaves(9, Check.MOST);
  }

  private static void placeLeaves(int origin, int entry) {
    Check.leaves("place(" + origin + ", " + entry + ")", Check.ARGUMENT, Check::worked, x -> {
      x.place(origin, entry);
      return "nothing";
    });
  }

  // Promise 6: "the machine, and what it has, stays".
  static void placeLeavesTheMachine() {
    leavesTheMachine("place", x -> x.place(77, 78));
  }

  // Promise 6: "the machine, and what it has, stays", that of a new object and one that has made no step, too.
  static void placeLeavesAMachineWithoutSteps() {
    SelfOpener x = new SelfOpener();
    x.place(5, 6);
    Check.due("place of a new one", x.look(8), 0);
    Check.due("it has stopped", x.look(9), 1);
    x.load();
    x.place(7, 8);
    Check.due("place", x.look(8), 6);
  }

  // Promise 6: "as with all that changes the program": put.
  static void putLeavesTheMachine() {
    leavesTheMachine("put", x -> Check.due("put", x.put(-1, 8), true));
  }

  // Promise 6: "as with all that changes the program": again.
  static void againLeavesTheMachine() {
    leavesTheMachine("again", x -> Check.due("again", x.again(3, 150), true));
  }

  // Promise 6: "as with all that changes the program": change.
  static void changeLeavesTheMachine() {
    leavesTheMachine("change", x -> x.change(0, 99));
  }

  // Promise 6: "as with all that changes the program": cut.
  static void cutLeavesTheMachine() {
    leavesTheMachine("cut", x -> x.cut(0));
  }

  // Promise 6: "as with all that changes the program": unpack.
  static void unpackLeavesTheMachine() {
    leavesTheMachine("unpack", x -> {
      x.cut(0);
      Check.add(x, 2, 77, 78, 129, 2, 0);
      Check.due("unpack", x.unpack(), 5);
    });
  }

  /** What is done with an object. */
  private interface Change {
    void make(SelfOpener x);
  }

  private static void leavesTheMachine(String what, Change change) {
    SelfOpener x = Check.worked();
    change.make(x);
    Check.answers("machine behind " + what, Check.machine(Check.worked()), () -> Check.machine(x));
    Check.due("it runs on", x.run(3, -1), 3);
    Check.due("steps", x.look(10), 12);
  }

  // Promise 7: "How many bytes the program has", none.
  static void sizeOfNone() {
    SelfOpener x = Check.program(1, 2);
    Check.due("size", x.size(), 2);
    x.cut(0);
    Check.due("size", x.size(), 0);
  }

  // Promise 7 and Terms: "at most 160 bytes".
  static void sizeOfAFullProgram() {
    Check.due("size", Check.program(Check.different(160)).size(), 160);
  }
}
