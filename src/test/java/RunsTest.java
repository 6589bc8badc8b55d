import java.util.Random;

/** Long runs of calls of all kinds on one object, each answer beside the model's. */
public final class RunsTest {
  private static final int MOST_CALLS = 512;
  private static final int[] ODD = {-1, 0, 1, 2, 7, 8, 9, 12, 127, 128, 129, 159, 160, 161, 255, 256, 4000, 4001,
    Check.LEAST, Check.MOST};

  private final Random random;
  private final String name;
  private final SelfOpener x = new SelfOpener();
  private final Model model = new Model();
  private int calls;

  private RunsTest(int seed) {
    random = new Random(seed);
    name = "run " + seed;
  }

  public static void main(String[] args) {
    Check.run(RunsTest.class);
  }

  // All promises: any calls, one behind the other, up to the 512 that an object is good for.
  static void anyCalls() {
    for (int seed = 0; seed < 300; seed++) {
      RunsTest run = new RunsTest(seed);
      while (run.calls < MOST_CALLS) {
        run.next();
      }
    }
  }

  private void next() {
    int call = ++calls;
    switch (random.nextInt(20)) {
      case 0, 1 -> put(call);
      case 2, 3 -> again(call);
      case 4 -> change(call);
      case 5 -> cut(call);
      case 6, 7 -> place(call);
      case 8 -> unpack(call);
      case 9 -> same(call, "load()", Check.answerOf(x::load), Check.answerOf(model::load));
      case 10, 11 -> same(call, "loadPacked()", Check.answer(x::loadPacked), Check.answer(model::loadPacked));
      case 12, 13, 14 -> run(call);
      case 15 -> same(call, "apart()", Check.answer(x::apart), Check.answer(model::apart));
      default -> ask(call);
    }
  }

  private void same(int call, String what, String got, String want) {
    Check.answers(name + ", call " + call + ": " + what, want, () -> got);
  }

  /** Mostly a number from..to, at times one that stands at an edge, or is far away. */
  private int number(int from, int to) {
    return random.nextInt(6) == 0 ? ODD[random.nextInt(ODD.length)] : from + random.nextInt(Math.max(1, to - from + 1));
  }

  private void put(int call) {
    long w = random.nextInt(3) == 0 ? random.nextLong() : random.nextLong() & 0x8103_8003_0201_1F1FL;
    int n = number(1, 8);
    same(call, "put(" + w + ", " + n + ")", "" + x.put(w, n), "" + model.put(w, n));
  }

  private void again(int call) {
    int d = number(1, model.size());
    int n = number(0, random.nextInt(4) == 0 ? 160 - model.size() : 10);
    same(call, "again(" + d + ", " + n + ")", "" + x.again(d, n), "" + model.again(d, n));
  }

  private void change(int call) {
    int i = number(0, model.size() - 1);
    int v = number(0, 255);
    same(call, "change(" + i + ", " + v + ")",
        Check.answerOf(() -> x.change(i, v)), Check.answerOf(() -> model.change(i, v)));
  }

  private void cut(int call) {
    int n = number(model.size() * random.nextInt(4) / 3, model.size());
    same(call, "cut(" + n + ")", Check.answerOf(() -> x.cut(n)), Check.answerOf(() -> model.cut(n)));
  }

  private void place(int call) {
    int origin = number(0, random.nextInt(3) == 0 ? 255 : 195 - Math.min(195, model.size()));
    int entry = random.nextInt(2) == 0 ? origin : number(0, 255);
    same(call, "place(" + origin + ", " + entry + ")",
        Check.answerOf(() -> x.place(origin, entry)), Check.answerOf(() -> model.place(origin, entry)));
  }

  /** At times the program becomes its own stream first, so that there is something to unpack. */
  private void unpack(int call) {
    if (random.nextInt(2) == 0 && model.packed() <= 8 && call < MOST_CALLS) {
      long w = 0;
      int n = model.packed();
      for (int i = n - 1; i >= 0; i--) {
        w = w << 8 | model.stream(i);
      }
      x.cut(0);
      model.cut(0);
      calls++;
      same(calls, "put of a stream", "" + x.put(w, n), "" + model.put(w, n));
    } else {
      same(call, "unpack()", Check.answer(x::unpack), Check.answer(model::unpack));
    }
  }

  private void run(int call) {
    int steps = random.nextInt(4) == 0 ? number(0, 4000) : number(0, 60);
    int until = number(-1, 255);
    same(call, "run(" + steps + ", " + until + ")",
        Check.answer(() -> x.run(steps, until)), Check.answer(() -> model.run(steps, until)));
  }

  private void ask(int call) {
    int i;
    switch (random.nextInt(7)) {
      case 0 -> same(call, "size()", "" + x.size(), "" + model.size());
      case 1 -> same(call, "packed()", "" + x.packed(), "" + model.packed());
      case 2 -> same(call, "gap()", "" + x.gap(), "" + model.gap());
      case 3 -> {
        i = number(0, model.packed());
        same(call, "stream(" + i + ")", answer(i, x::stream), answer(i, model::stream));
      }
      case 4 -> {
        i = number(0, 12);
        same(call, "look(" + i + ")", answer(i, x::look), answer(i, model::look));
      }
      case 5 -> {
        i = number(0, 256);
        same(call, "memory(" + i + ")", answer(i, x::memory), answer(i, model::memory));
      }
      default -> {
        i = number(model.look(11) - 34, model.look(11));
        same(call, "out(" + i + ")", answer(i, x::out), answer(i, model::out));
      }
    }
  }

  /** A call that takes an index. */
  private interface At {
    int of(int i);
  }

  private static String answer(int i, At at) {
    return Check.answer(() -> at.of(i));
  }
}
