import java.util.Arrays;
import java.util.Random;

/** Promise 11: unpack. */
public final class UnpackTest {
  private static final String NO_END = "throws.NoSuchElementException";
  private static final String BEHIND = "throws.IllegalStateException";
  private static final String DISTANCE = "throws.IllegalArgumentException";
  private static final String TOO_MANY = "throws.UnsupportedOperationException";

  public static void main(String[] args) {
    opens();
    refuses();
    limits();
    whatIsMetFirst();
    roundTrips();
    anyBytes();
    Check.end();
  }

  private static void opens() {
    is(new int[] {0});
    is(new int[] {1, 9, 0}, 9);
    is(new int[] {1, 0, 0}, 0);
    is(new int[] {2, 7, 8, 128, 2, 0}, 7, 8, 7, 8);
    is(new int[] {2, 7, 8, 131, 2, 0}, 7, 8, 7, 8, 7, 8, 7);
    is(new int[] {2, 7, 8, 129, 1, 1, 5, 128, 6, 0}, 7, 8, 8, 8, 8, 5, 7, 8);
    SelfOpener x = Check.placed(30, 40, 1, 9, 128, 1, 0);
    Check.due("unpack", x.unpack(), 3);
    x.load();
    Check.due("the origin stays", x.memory(30), 9);
    Check.due("the entry stays", x.look(8), 40);
    Check.due("the stream is a new one", x.packed(), 5);
    Check.answers("unpack again", NO_END, x::unpack);
  }

  private static void is(int[] stream, int... bytes) {
    SelfOpener x = Check.program(stream);
    String what = "unpack of " + Arrays.toString(stream);
    Check.answers(what, "" + bytes.length, x::unpack);
    Check.due("size behind " + what, x.size(), bytes.length);
    Check.same(what, Check.bytesOf(x), bytes);
  }

  private static void refuses() {
    throwsIt(NO_END);
    throwsIt(NO_END, 1);
    throwsIt(NO_END, 1, 5);
    throwsIt(NO_END, 3, 5, 0);
    throwsIt(NO_END, 1, 5, 128);
    throwsIt(NO_END, 1, 5, 128, 1);
    throwsIt(NO_END, 128);
    throwsIt(BEHIND, 0, 0);
    throwsIt(BEHIND, 0, 128, 0);
    throwsIt(BEHIND, 1, 5, 0, 7);
    throwsIt(DISTANCE, 128, 1, 0);
    throwsIt(DISTANCE, 1, 5, 128, 0);
    throwsIt(DISTANCE, 1, 5, 128, 2, 0);
    throwsIt(DISTANCE, 1, 5, 128, 255, 0);
  }

  private static void throwsIt(String what, int... stream) {
    SelfOpener x = Check.program(stream);
    Check.answers("unpack of " + Arrays.toString(stream), what, x::unpack);
    Check.same("what throws leaves it", Check.bytesOf(x), stream);
  }

  private static void limits() {
    int[] full = new int[160];
    Arrays.fill(full, 5);
    is(new int[] {1, 5, 255, 1, 156, 1, 0}, full);
    throwsIt(TOO_MANY, 1, 5, 255, 1, 157, 1, 0);
    throwsIt(TOO_MANY, 1, 5, 255, 1, 255, 1, 0);
    is(new int[] {1, 5, 255, 1, 155, 1, 1, 5, 0}, full);
    throwsIt(TOO_MANY, 1, 5, 255, 1, 156, 1, 1, 5, 0);
    throwsIt(TOO_MANY, 1, 5, 255, 1, 155, 1, 2, 5, 5, 0);
    int[] run = new int[160];
    Arrays.fill(run, 3);
    run[0] = 127;
    run[128] = 30;
    run[159] = 0;
    Check.answers("unpack of 160", "157", () -> Check.program(run).unpack());
    run[159] = 1;
    throwsIt(NO_END, run);
  }

  private static void whatIsMetFirst() {
    throwsIt(DISTANCE, 1, 5, 128, 0, 1);
    throwsIt(DISTANCE, 1, 5, 128, 9);
    throwsIt(BEHIND, 0, 128, 9, 3);
    throwsIt(TOO_MANY, 1, 5, 255, 1, 255, 1);
    throwsIt(TOO_MANY, 1, 5, 255, 1, 255, 1, 128, 0);
    throwsIt(DISTANCE, 1, 5, 255, 1, 255, 0);
    throwsIt(DISTANCE, 1, 5, 255, 1, 255, 200, 0);
    throwsIt(NO_END, 1, 5, 255, 1, 255);
    throwsIt(NO_END, 1, 5, 255, 1, 100, 5);
    throwsIt(TOO_MANY, 1, 5, 255, 1, 156, 1, 1, 5);
  }

  /** The stream of a program unpacks to it. */
  private static void roundTrips() {
    Random random = new Random(11);
    for (int k = 0; k < 300; k++) {
      int[] bytes = new int[random.nextInt(150)];
      int kinds = 1 + random.nextInt(20);
      for (int i = 0; i < bytes.length; i++) {
        bytes[i] = random.nextInt(3) == 0 && i > 4 ? bytes[i - 4] : random.nextInt(kinds);
      }
      is(Check.streamOf(Check.program(bytes)), bytes);
    }
  }

  private static void anyBytes() {
    Random random = new Random(13);
    int[] values = {0, 0, 1, 1, 2, 3, 128, 129, 130, 200, 255, 60};
    for (int k = 0; k < 20000; k++) {
      int[] bytes = new int[random.nextInt(14)];
      for (int i = 0; i < bytes.length; i++) {
        bytes[i] = values[random.nextInt(values.length)];
      }
      SelfOpener x = Check.program(bytes);
      int[] want = new int[161];
      String due = opened(bytes, want);
      Check.answers("unpack of " + Arrays.toString(bytes), due, x::unpack);
      int[] left = due.startsWith("throws.") ? bytes : Arrays.copyOf(want, Integer.parseInt(due));
      Check.same("behind unpack of " + Arrays.toString(bytes), Check.bytesOf(x), left);
    }
  }

  /** The same as the program's, written byte by byte. */
  private static String opened(int[] stream, int[] row) {
    int at = 0;
    int n = 0;
    while (true) {
      if (at >= stream.length) {
        return NO_END;
      }
      int t = stream[at++];
      if (t == 0) {
        return at < stream.length ? BEHIND : "" + n;
      }
      int needs = t < 128 ? t : 1;
      int makes = t < 128 ? t : t - 126;
      if (stream.length - at < needs) {
        return NO_END;
      }
      int d = t < 128 ? 0 : stream[at];
      if (t >= 128 && (d < 1 || d > n)) {
        return DISTANCE;
      }
      if (n + makes > 160) {
        return TOO_MANY;
      }
      for (int i = 0; i < makes; i++) {
        row[n] = t < 128 ? stream[at + i] : row[n - d];
        n++;
      }
      at += needs;
    }
  }
}
