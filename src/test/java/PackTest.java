import java.util.ArrayList;
import java.util.Arrays;
import java.util.List;
import java.util.Random;

/** Promises 8 to 10, and what 'Terms' tells of streams and gaps. */
public final class PackTest {
  public static void main(String[] args) {
    Check.run(PackTest.class);
  }

  private static void streamIs(SelfOpener x, int... want) {
    Check.same("stream", Check.streamOf(x), want);
  }

  private static void streamOf(int[] bytes, int... want) {
    streamIs(Check.program(bytes), want);
  }

  private static int[] row(int... bytes) {
    return bytes;
  }

  // Promise 8: "1 of an empty program"; Terms: "a byte 0 behind them".
  static void streamOfAnEmptyProgram() {
    streamOf(row(), 0);
    SelfOpener x = Check.program(1, 2, 3);
    Check.due("packed before", x.packed(), 5);
    x.cut(0);
    streamIs(x, 0);
  }

  // Terms: "A RUN is a byte t from 1", the shortest.
  static void runOfOne() {
    streamOf(row(9), 1, 9, 0);
    streamOf(row(0), 1, 0, 0);
  }

  // Terms: "A RUN is a byte t from 1 to 127", the longest.
  static void runOf127() {
    streamOf(Check.different(127), Check.joined(row(127), Check.different(127), row(0)));
  }

  // Terms: "A RUN is a byte t from 1 to 127": more are two; "of two runs the one of fewer bytes".
  static void runOf128() {
    int[] bytes = Check.different(128);
    int[] behind = Arrays.copyOfRange(bytes, 1, 128);
    streamOf(bytes, Check.joined(row(1, 0), row(127), behind, row(0)));
  }

  // Promise 8: a full program that nothing makes shorter.
  static void streamOfAFullProgram() {
    int[] bytes = Check.different(160);
    int[] behind = Arrays.copyOfRange(bytes, 33, 160);
    streamOf(bytes, Check.joined(row(33), Check.different(33), row(127), behind, row(0)));
    Check.due("packed", Check.program(bytes).packed(), 163);
  }

  // Terms: "t - 126 bytes come", of t = 128 two: one byte is no copy.
  static void copyOfOneIsNone() {
    streamOf(row(9, 9), 2, 9, 9, 0);
    streamOf(row(1, 2, 2, 2, 2, 2, 1), 2, 1, 2, 130, 1, 1, 1, 0);
  }

  // Terms: "A COPY is a byte t from 128", the shortest.
  static void copyOfTwo() {
    streamOf(row(9, 9, 9), 1, 9, 128, 1, 0);
    streamOf(row(1, 2, 1, 2), 2, 1, 2, 128, 2, 0);
  }

  // Terms: "A COPY is a byte t from 128 to 255", the longest.
  static void copyOf129() {
    streamOf(Check.alike(130, 5), 1, 5, 255, 1, 0);
  }

  // Terms: a copy makes 129 at most; the fewest bytes count before the order.
  static void copyOf130() {
    streamOf(Check.alike(131, 5), 2, 5, 5, 255, 1, 0);
  }

  // Terms: "of two copies the one of more bytes", when the longest one stands first.
  static void copyOf131() {
    streamOf(Check.alike(132, 5), 1, 5, 255, 1, 128, 1, 0);
  }

  // Terms: "each the one that stands d bytes before the place where it comes": it may reach into itself.
  static void copyLongerThanItsDistance() {
    streamOf(row(7, 8, 7, 8, 7, 8, 7), 2, 7, 8, 131, 2, 0);
  }

  // Terms: "(there must be one)": a copy from the first byte on, up to its end.
  static void copyOfAllThatIsThere() {
    streamOf(row(7, 8, 9, 7, 8, 9), 3, 7, 8, 9, 129, 3, 0);
  }

  // Terms: "each the one that stands d bytes before", as far away as can be (two bytes, and 158 before).
  static void copyFromAsFarAsCanBe() {
    int[] bytes = Check.joined(Check.different(158), row(0, 1));
    int[] behind = Arrays.copyOfRange(bytes, 31, 158);
    streamOf(bytes, Check.joined(row(31), Check.different(31), row(127), behind, row(128, 158, 0)));
  }

  // Terms: bytes are 0 .. 255, those of 0 and 255 are as all others.
  static void streamOfTheEdgesOfBytes() {
    streamOf(row(0, 255, 0, 255, 128), 5, 0, 255, 0, 255, 128, 0);
    streamOf(row(255, 255, 255, 0, 0, 0), 4, 255, 255, 255, 0, 128, 1, 0);
  }

  // Terms: "THE STREAM OF A PROGRAM is the one with the fewest bytes": a run, though a copy could come first.
  static void fewestBytesBeforeCopies() {
    streamOf(row(1, 2, 1, 2, 3), 5, 1, 2, 1, 2, 3, 0);
  }

  // Terms: "where two differ first, a copy is before a run".
  static void copyBeforeRun() {
    streamOf(row(1, 2, 3, 3, 3, 3, 3, 1, 2, 9), 3, 1, 2, 3, 130, 1, 128, 7, 1, 9, 0);
  }

  // Terms: "of two copies the one of more bytes".
  static void copyOfMoreBytesFirst() {
    streamOf(row(1, 2, 3, 9, 3, 4, 5, 8, 1, 2, 3, 4, 5), 8, 1, 2, 3, 9, 3, 4, 5, 8, 129, 8, 128, 6, 0);
  }

  // Terms: "then the one with the lesser distance".
  static void copyOfLesserDistanceFirst() {
    streamOf(row(1, 2, 3, 9, 1, 2, 3, 8, 1, 2, 3), 4, 1, 2, 3, 9, 129, 4, 1, 8, 129, 4, 0);
    streamOf(row(4, 4, 4, 4, 4), 1, 4, 130, 1, 0);
  }

  // Terms: "of two copies the one of more bytes, then the one with the lesser distance", in this order.
  static void copyOfMoreBytesBeforeLesserDistance() {
    int[] bytes = row(1, 2, 3, 9, 3, 4, 5, 1, 2, 8, 1, 2, 3, 4, 5);
    streamOf(bytes, 10, 1, 2, 3, 9, 3, 4, 5, 1, 2, 8, 129, 10, 128, 8, 0);
  }

  // Terms: "of two runs the one of fewer bytes".
  static void runOfFewerBytesFirst() {
    streamOf(row(1, 2, 3, 1, 2), 3, 1, 2, 3, 128, 3, 0);
  }

  // Promise 8 and 9: the stream is that of the program as it is now: put.
  static void streamBehindPut() {
    SelfOpener x = asked(4, 4, 4);
    x.put(4, 1);
    streamIs(x, 1, 4, 129, 1, 0);
  }

  // Promise 8 and 9: again.
  static void streamBehindAgain() {
    SelfOpener x = asked(4, 4, 4);
    x.again(1, 1);
    streamIs(x, 1, 4, 129, 1, 0);
  }

  // Promise 8 and 9: change.
  static void streamBehindChange() {
    SelfOpener x = asked(4, 4, 4);
    x.change(2, 5);
    streamIs(x, 3, 4, 4, 5, 0);
    Check.due("gap", x.gap(), 2);
  }

  // Promise 8 and 9: cut.
  static void streamBehindCut() {
    SelfOpener x = asked(4, 4, 4);
    x.cut(2);
    streamIs(x, 2, 4, 4, 0);
  }

  // Promise 8 and 9: unpack.
  static void streamBehindUnpack() {
    SelfOpener x = asked(1, 4, 129, 1, 0);
    x.unpack();
    streamIs(x, 1, 4, 129, 1, 0);
  }

  // Promise 8 and 9: another program of the same size, but for its last byte the same.
  static void streamBehindCutAndPut() {
    SelfOpener x = asked(4, 4, 4);
    x.cut(2);
    x.put(5, 1);
    streamIs(x, 3, 4, 4, 5, 0);
  }

  // Promise 8 and 9: two changes, one behind the other.
  static void streamBehindChangeAndPut() {
    SelfOpener x = asked(4, 4, 4);
    x.change(0, 5);
    x.put(4, 1);
    streamIs(x, 2, 5, 4, 128, 1, 0);
  }

  // Promise 8 and 9: another program of the same size, which has no copy where the first one had.
  static void streamBehindAllOther() {
    SelfOpener x = asked(Check.alike(8, 4));
    x.cut(0);
    x.put(0x0807060504030201L, 8);
    streamIs(x, 8, 1, 2, 3, 4, 5, 6, 7, 8, 0);
  }

  // Promise 8 to 10: origin and entry do not count.
  static void streamBehindPlace() {
    SelfOpener x = asked(4, 4, 4);
    x.place(255, 255);
    streamIs(x, 1, 4, 128, 1, 0);
    Check.due("gap", x.gap(), 2);
  }

  /** A program whose stream and gap have been asked for. */
  private static SelfOpener asked(int... bytes) {
    SelfOpener x = Check.program(bytes);
    x.packed();
    x.stream(0);
    x.gap();
    return x;
  }

  // Promise 9: "Byte i of its stream", the first and the last (which is 0).
  static void streamAtItsEdges() {
    SelfOpener x = Check.program(7, 8);
    Check.answers("stream(0)", "2", () -> x.stream(0));
    Check.answers("stream(3)", "0", () -> x.stream(3));
  }

  // Promise 9: "IndexOutOfBoundsException when there is none", below.
  static void streamBeforeTheFirst() {
    Check.leaves("stream(-1)", Check.INDEX, Check::worked, x -> x.stream(-1));
    Check.leaves("stream(LEAST)", Check.INDEX, Check::worked, x -> x.stream(Check.LEAST));
  }

  // Promise 9: "IndexOutOfBoundsException when there is none", just behind the last.
  static void streamBehindTheLast() {
    Check.due("packed", Check.worked().packed(), 9);
    Check.leaves("stream(9)", Check.INDEX, Check::worked, x -> x.stream(9));
    Check.leaves("stream(MOST)", Check.INDEX, Check::worked, x -> x.stream(Check.MOST));
  }

  // Promise 9: "when there is none", of an empty program.
  static void streamBehindThatOfAnEmptyProgram() {
    Check.leaves("stream(1)", Check.INDEX, SelfOpener::new, x -> x.stream(1));
  }

  // Promise 9: "when there is none", of the longest stream.
  static void streamBehindTheLongest() {
    SelfOpener x = Check.program(Check.different(160));
    Check.answers("stream(162)", "0", () -> x.stream(162));
    Check.answers("stream(163)", Check.INDEX, () -> x.stream(163));
  }

  // Promise 9: "when there is none": a stream that has become shorter.
  static void streamBehindTheLastOfAShorterOne() {
    SelfOpener x = Check.program(1, 2, 3);
    Check.due("packed", x.packed(), 5);
    x.cut(1);
    Check.answers("stream(3)", Check.INDEX, () -> x.stream(3));
    Check.answers("stream(2)", "0", () -> x.stream(2));
  }

  // Terms: "n + g is not less than c", of an empty program.
  static void gapOfAnEmptyProgram() {
    Check.due("gap", new SelfOpener().gap(), 1);
    SelfOpener x = Check.program(1, 2, 3);
    Check.due("gap before", x.gap(), 2);
    x.cut(0);
    Check.due("gap", x.gap(), 1);
  }

  // Terms: "such that n + g is not less than c", which asks here for more than the tokens do.
  static void gapThatTheSizesAskFor() {
    Check.due("gap of one byte", Check.program(9).gap(), 2);
    Check.due("gap of 127 bytes", Check.program(Check.different(127)).gap(), 2);
    Check.due("gap of 128 bytes", Check.program(Check.different(128)).gap(), 3);
    Check.due("gap of 160 bytes", Check.program(Check.different(160)).gap(), 3);
  }

  // Terms: "w is not more than n + g - c + r" of the last token, which leaves the byte 0 to be read.
  static void gapThatTheLastTokenAsksFor() {
    Check.due("gap of 130 alike", Check.program(Check.alike(130, 5)).gap(), 1);
    Check.due("gap", Check.program(7, 8, 9, 7, 8, 9).gap(), 1);
  }

  // Terms: "for each token of the stream": here one in the middle asks for the most.
  static void gapThatATokenInTheMiddleAsksFor() {
    int[] bytes = Check.joined(Check.alike(20, 4), row(5));
    streamOf(bytes, 1, 4, 145, 1, 1, 5, 0);
    Check.due("gap", Check.program(bytes).gap(), 2);
    int[] more = Check.joined(Check.alike(20, 200), Check.different(128));
    Check.due("gap before two runs", Check.program(more).gap(), 3);
  }

  // Terms: "the least number (0 or more)": one less does not do for any small program.
  static void gapIsTheLeast() {
    Check.due("gap when n + g is c", Check.program(1, 2, 1, 2).gap(), 2);
    Check.due("gap when n is c", Check.program(9, 9, 9, 9, 9).gap(), 1);
  }

  // Promises 8 to 10: all programs of up to nine bytes out of two, and up to six out of three.
  static void allSmallPrograms() {
    for (int n = 0; n <= 9; n++) {
      all(new int[n], 0, 2);
    }
    for (int n = 0; n <= 6; n++) {
      all(new int[n], 0, 3);
    }
  }

  private static void all(int[] bytes, int from, int kinds) {
    if (from == bytes.length) {
      beside(bytes, searched(bytes));
      return;
    }
    for (int v = 0; v < kinds; v++) {
      bytes[from] = v;
      all(bytes, from + 1, kinds);
    }
  }

  private static void beside(int[] bytes, List<int[]> tokens) {
    SelfOpener x = Check.program(bytes);
    int[] stream = Model.streamOf(bytes, tokens);
    String what = Arrays.toString(bytes);
    Check.same("stream of " + what, Check.streamOf(x), stream);
    Check.due("gap of " + what, x.gap(), Model.gapOf(bytes.length, stream.length, tokens));
  }

  /** Walks through every stream of the program and keeps the one that comes first. */
  private static List<int[]> searched(int[] bytes) {
    List<List<int[]>> best = new ArrayList<>();
    search(bytes, 0, new ArrayList<>(), best);
    return best.get(0);
  }

  private static void search(int[] bytes, int at, List<int[]> tokens, List<List<int[]>> best) {
    if (at == bytes.length) {
      if (best.isEmpty() || isBefore(tokens, best.get(0))) {
        best.clear();
        best.add(new ArrayList<>(tokens));
      }
      return;
    }
    for (int n = 1; at + n <= bytes.length; n++) {
      for (int d = 0; d <= at; d++) {
        if (d == 0 || Model.isCopy(bytes, at, n, d)) {
          tokens.add(new int[] {n, d});
          search(bytes, at + n, tokens, best);
          tokens.remove(tokens.size() - 1);
        }
      }
    }
  }

  private static boolean isBefore(List<int[]> a, List<int[]> b) {
    if (cost(a) != cost(b)) {
      return cost(a) < cost(b);
    }
    for (int i = 0; i < Math.min(a.size(), b.size()); i++) {
      int order = Model.order(a.get(i), b.get(i));
      if (order != 0) {
        return order < 0;
      }
    }
    return false;
  }

  private static int cost(List<int[]> tokens) {
    int cost = 1;
    for (int[] t : tokens) {
      cost += t[1] > 0 ? 2 : 1 + t[0];
    }
    return cost;
  }

  // Promises 8 to 10: larger programs beside a slower reckoning that tries every length at every distance.
  static void largerPrograms() {
    Random random = new Random(7);
    for (int k = 0; k < 1500; k++) {
      int n = random.nextInt(161);
      int kinds = 1 + random.nextInt(k % 3 == 0 ? 255 : 4);
      int[] bytes = new int[n];
      for (int i = 0; i < n; i++) {
        int back = 1 + random.nextInt(i + 1);
        bytes[i] = k % 2 == 0 && i > 3 && random.nextInt(8) > 0 ? bytes[i - Math.min(i, 1 + k % 7)]
            : back <= i && random.nextInt(3) == 0 ? bytes[i - back] : random.nextInt(kinds);
      }
      beside(bytes, Model.tokensOf(bytes));
    }
  }
}
