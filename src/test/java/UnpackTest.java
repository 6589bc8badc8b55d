import java.util.Arrays;
import java.util.Random;

/** Promise 11: unpack. */
public final class UnpackTest {
  public static void main(String[] args) {
    Check.run(UnpackTest.class);
  }

  private static void opens(int[] stream, int... bytes) {
    SelfOpener x = Check.program(stream);
    String what = "unpack of " + Arrays.toString(stream);
    Check.answers(what, "" + bytes.length, x::unpack);
    Check.due("size behind " + what, x.size(), bytes.length);
    Check.same(what, Check.bytesOf(x), bytes);
  }

  private static void refuses(String want, int... stream) {
    String what = "unpack of " + Arrays.toString(stream);
    Check.leaves(what, want, () -> Check.program(stream), SelfOpener::unpack);
  }

  private static int[] row(int... bytes) {
    return bytes;
  }

  /** Two runs, of 127 bytes and of n, and what stands behind them. */
  private static int[] twoRuns(int n, int... behind) {
    return Check.joined(row(127), Check.alike(127, 3), row(n), Check.alike(n, 3), behind);
  }

  // Promise 11: "how many bytes (perhaps 0)".
  static void opensToNone() {
    opens(row(0));
  }

  // Terms: "a byte t from 1", the shortest run.
  static void runOfOne() {
    opens(row(1, 9, 0), 9);
  }

  // Terms: "a byte t from 1 to 127", the longest run.
  static void runOf127() {
    opens(Check.joined(row(127), Check.different(127), row(0)), Check.different(127));
  }

  // Terms: a run's bytes are no tokens, a 0 among them is no end.
  static void runWithAZero() {
    opens(row(3, 0, 0, 200, 0), 0, 0, 200);
  }

  // Terms: "a byte t from 128", the shortest copy.
  static void copyOfTwo() {
    opens(row(2, 7, 8, 128, 2, 0), 7, 8, 7, 8);
  }

  // Terms: "a byte t from 128 to 255", the longest copy.
  static void copyOf129() {
    opens(row(1, 5, 255, 1, 0), Check.alike(130, 5));
  }

  // Terms: "one after the other, each the one that stands d bytes before the place where it comes".
  static void copyLongerThanItsDistance() {
    opens(row(2, 7, 8, 131, 2, 0), 7, 8, 7, 8, 7, 8, 7);
  }

  // Terms: "(there must be one)": the distance is as many as are there.
  static void distanceToTheFirstByte() {
    opens(row(2, 7, 8, 129, 1, 1, 5, 128, 6, 0), 7, 8, 8, 8, 8, 5, 7, 8);
    opens(row(1, 7, 128, 1, 0), 7, 7, 7);
  }

  // Terms: the largest distance with which a copy still fits.
  static void distanceOf158() {
    int[] runs = Check.joined(row(1, 5, 255, 1, 26), Check.different(26), row(128, 156, 0));
    int[] bytes = Check.joined(Check.alike(130, 5), Check.different(26), row(5, 5));
    opens(runs, bytes);
    int[] more = Check.joined(row(1, 9, 1, 5, 253, 1, 28), Check.different(28), row(128, 157, 0));
    int[] moreBytes = Check.joined(row(9), Check.alike(128, 5), Check.different(28), row(9, 5));
    opens(more, moreBytes);
    int[] most = Check.joined(row(1, 9, 1, 5, 254, 1, 28), Check.different(28), row(128, 158, 0));
    int[] mostBytes = Check.joined(row(9), Check.alike(129, 5), Check.different(28), row(9, 5));
    opens(most, mostBytes);
  }

  // Promise 11: "The program becomes what it is as a stream, unpacked": the bytes, not origin and entry.
  static void originAndEntryStay() {
    SelfOpener x = Check.placed(30, 40, 1, 9, 128, 1, 0);
    Check.due("unpack", x.unpack(), 3);
    x.load();
    Check.due("first byte", x.memory(30), 9);
    Check.due("entry", x.look(8), 40);
  }

  // Promise 11: the program is what was unpacked, and may be a stream once more.
  static void opensTwice() {
    SelfOpener x = Check.program(4, 2, 7, 8, 0, 0);
    Check.answers("unpack", "4", x::unpack);
    Check.answers("unpack once more", "2", x::unpack);
    Check.answers("unpack of 7, 8", Check.NO_ELEMENT, x::unpack);
    Check.same("bytes", Check.bytesOf(x), 7, 8);
  }

  // Promise 11: "NoSuchElementException when it has no byte 0 as the end of a stream".
  static void noEnd() {
    refuses(Check.NO_ELEMENT, 1, 5);
    refuses(Check.NO_ELEMENT, 1, 5, 128, 1);
    refuses(Check.NO_ELEMENT, 1, 0);
  }

  // Promise 11: "no byte 0 as the end", of an empty program.
  static void noEndOfAnEmptyProgram() {
    refuses(Check.NO_ELEMENT);
  }

  // Promise 11: "no byte 0 as the end", of a full program.
  static void noEndOfAFullProgram() {
    refuses(Check.NO_ELEMENT, twoRuns(31));
    refuses(Check.NO_ELEMENT, twoRuns(29, 128, 1));
    refuses(Check.NO_ELEMENT, twoRuns(30, 1));
    refuses(Check.NO_ELEMENT, twoRuns(30, 255));
  }

  // Promise 11: the end is the last byte of a full program.
  static void endOfAFullProgram() {
    opens(twoRuns(30, 0), Check.alike(157, 3));
    opens(twoRuns(28, 128, 1, 0), Check.alike(157, 3));
  }

  // Promise 11: "(or ends before)", in a run.
  static void endsInARun() {
    refuses(Check.NO_ELEMENT, 1);
    refuses(Check.NO_ELEMENT, 3, 5, 6);
    refuses(Check.NO_ELEMENT, 3, 5, 0);
    refuses(Check.NO_ELEMENT, Check.joined(row(127), Check.different(126)));
  }

  // Promise 11: "(or ends before)", in a copy.
  static void endsInACopy() {
    refuses(Check.NO_ELEMENT, 1, 5, 128);
    refuses(Check.NO_ELEMENT, 1, 5, 255);
    refuses(Check.NO_ELEMENT, 128);
  }

  // Promise 11: what was cut off is not there any more.
  static void endWasCutOff() {
    SelfOpener x = Check.program(1, 5, 0);
    x.cut(2);
    Check.answers("unpack", Check.NO_ELEMENT, x::unpack);
    x.cut(1);
    Check.answers("unpack", Check.NO_ELEMENT, x::unpack);
    SelfOpener y = Check.program(1, 5, 128, 1, 0);
    y.cut(3);
    Check.answers("unpack", Check.NO_ELEMENT, y::unpack);
  }

  // Promise 11: "IllegalStateException when bytes stand behind that", one.
  static void oneByteBehind() {
    refuses(Check.STATE, 0, 0);
    refuses(Check.STATE, 1, 5, 0, 7);
  }

  // Promise 11: "IllegalStateException when bytes stand behind that", as many as can be.
  static void manyBytesBehind() {
    refuses(Check.STATE, Check.alike(160, 0));
  }

  // Promise 11: bytes behind the end are not looked at.
  static void wrongTokensBehind() {
    refuses(Check.STATE, 0, 128, 0);
    refuses(Check.STATE, 0, 128, 9, 3);
    refuses(Check.STATE, 0, 5);
  }

  // Promise 11: "IllegalArgumentException when a distance is 0".
  static void distanceOfZero() {
    refuses(Check.ARGUMENT, 1, 5, 128, 0);
    refuses(Check.ARGUMENT, 1, 5, 128, 0, 0);
    refuses(Check.ARGUMENT, 128, 0, 0);
  }

  // Promise 11: "or more than is there", by one.
  static void distanceOfOneTooMuch() {
    refuses(Check.ARGUMENT, 1, 5, 128, 2, 0);
    refuses(Check.ARGUMENT, 2, 5, 6, 129, 3, 0);
    refuses(Check.ARGUMENT, 1, 5, 129, 1, 128, 5, 0);
  }

  // Promise 11: "or more than is there", by much.
  static void distanceOfMuchTooMuch() {
    refuses(Check.ARGUMENT, 1, 5, 128, 255, 0);
  }

  // Promise 11: "or more than is there", when nothing is.
  static void distanceBeforeAnyByte() {
    refuses(Check.ARGUMENT, 128, 1, 0);
    refuses(Check.ARGUMENT, 255, 255, 0);
  }

  // Promise 11: "when there would be more than 160": not of 160 by a copy.
  static void copyThatFillsTheProgram() {
    opens(row(1, 5, 255, 1, 156, 1, 0), Check.alike(160, 5));
    opens(row(3, 5, 5, 5, 255, 1, 154, 1, 0), Check.alike(160, 5));
  }

  // Promise 11: "when there would be more than 160": not of 160 by a run.
  static void runThatFillsTheProgram() {
    opens(row(1, 5, 255, 1, 155, 1, 1, 6, 0), Check.joined(Check.alike(159, 5), row(6)));
    int[] run = Check.joined(row(1, 5, 255, 1, 30), Check.different(30), row(0));
    opens(run, Check.joined(Check.alike(130, 5), Check.different(30)));
  }

  // Promise 11: "UnsupportedOperationException when there would be more than 160", by a copy.
  static void copyBeyondTheProgram() {
    refuses(Check.UNSUPPORTED, 1, 5, 255, 1, 157, 1, 0);
    refuses(Check.UNSUPPORTED, 1, 5, 255, 1, 255, 1, 0);
    refuses(Check.UNSUPPORTED, 1, 5, 255, 1, 156, 1, 128, 1, 0);
  }

  // Promise 11: "UnsupportedOperationException when there would be more than 160", by a run.
  static void runBeyondTheProgram() {
    refuses(Check.UNSUPPORTED, 1, 5, 255, 1, 156, 1, 1, 5, 0);
    refuses(Check.UNSUPPORTED, 1, 5, 255, 1, 155, 1, 2, 5, 5, 0);
    refuses(Check.UNSUPPORTED, Check.joined(row(1, 5, 255, 1, 127), Check.different(127), row(0)));
  }

  // Promise 11: "a copy or run is looked at when all its bytes are there": a run too long that ends before.
  static void endsInARunBeyondTheProgram() {
    refuses(Check.NO_ELEMENT, 1, 5, 255, 1, 100, 5);
    refuses(Check.NO_ELEMENT, 1, 5, 255, 1, 31);
    refuses(Check.UNSUPPORTED, 1, 5, 255, 1, 156, 1, 1, 5);
  }

  // Promise 11: "a copy or run is looked at when all its bytes are there": a copy too long that ends before.
  static void endsInACopyBeyondTheProgram() {
    refuses(Check.NO_ELEMENT, 1, 5, 255, 1, 255);
    refuses(Check.UNSUPPORTED, 1, 5, 255, 1, 255, 1);
  }

  // Promise 11: "a copy's distance before its bytes are counted".
  static void distanceBeforeCount() {
    refuses(Check.ARGUMENT, 1, 5, 255, 1, 255, 0);
    refuses(Check.ARGUMENT, 1, 5, 255, 1, 255, 131, 0);
    refuses(Check.ARGUMENT, 1, 5, 255, 1, 157, 255, 0);
    refuses(Check.UNSUPPORTED, 1, 5, 255, 1, 255, 130, 0);
  }

  // Promise 11: "What is met first, going along the stream, counts": a distance before the end that lacks.
  static void distanceBeforeNoEnd() {
    refuses(Check.ARGUMENT, 1, 5, 128, 0, 1);
    refuses(Check.ARGUMENT, 1, 5, 128, 9, 3, 0);
    refuses(Check.ARGUMENT, 1, 5, 128, 9);
  }

  // Promise 11: "What is met first ... counts": a distance before bytes behind the end.
  static void distanceBeforeBytesBehind() {
    refuses(Check.ARGUMENT, 1, 5, 128, 9, 0, 7);
  }

  // Promise 11: "What is met first ... counts": too many before a wrong distance, no end or bytes behind.
  static void countBeforeAllBehindIt() {
    refuses(Check.UNSUPPORTED, 1, 5, 255, 1, 255, 1, 128, 0);
    refuses(Check.UNSUPPORTED, 1, 5, 255, 1, 255, 1, 3, 1);
    refuses(Check.UNSUPPORTED, 1, 5, 255, 1, 255, 1, 0, 7);
  }

  // Promise 11: "(what throws leaves it)", machine, origin and entry, too.
  static void whatThrowsLeavesAll() {
    Check.leaves("unpack", Check.NO_ELEMENT, () -> Check.workedWith(30, 2, 5), SelfOpener::unpack);
    Check.leaves("unpack", Check.STATE, () -> Check.workedWith(30, 2, 5, 6, 0, 0), SelfOpener::unpack);
    Check.leaves("unpack", Check.ARGUMENT, () -> Check.workedWith(30, 2, 5, 6, 128, 3, 0), SelfOpener::unpack);
    Check.leaves("unpack", Check.UNSUPPORTED, () -> Check.workedWith(30, 2, 5, 6, 255, 1, 156, 1, 0), SelfOpener::unpack);
  }

  // Promise 11: the stream of a program unpacks to it.
  static void roundTrips() {
    Random random = new Random(11);
    for (int k = 0; k < 300; k++) {
      int[] bytes = new int[random.nextInt(158)];
      int kinds = 1 + random.nextInt(20);
      for (int i = 0; i < bytes.length; i++) {
        bytes[i] = random.nextInt(3) == 0 && i > 4 ? bytes[i - 4] : random.nextInt(kinds);
      }
      int[] stream = Check.streamOf(Check.program(bytes));
      if (stream.length <= 160) {
        opens(stream, bytes);
      }
    }
  }

  // Promise 11: any bytes, beside another way to unpack them.
  static void anyBytes() {
    Random random = new Random(13);
    int[] values = {0, 0, 1, 1, 2, 3, 128, 129, 130, 200, 255, 60};
    for (int k = 0; k < 20000; k++) {
      int[] bytes = new int[random.nextInt(14)];
      Model model = new Model();
      for (int i = 0; i < bytes.length; i++) {
        bytes[i] = values[random.nextInt(values.length)];
        model.put(bytes[i], 1);
      }
      SelfOpener x = Check.program(bytes);
      String what = "unpack of " + Arrays.toString(bytes);
      Check.answers(what, Check.answer(model::unpack), x::unpack);
      Check.same("behind " + what, Check.bytesOf(x), model.bytes());
    }
  }
}
