import java.util.ArrayList;
import java.util.List;
import java.util.Random;

/** Promises 8 to 10: the stream of a program and its gap, beside a search through all streams. */
public final class PackTest {
  public static void main(String[] args) {
    named();
    wrongIndices();
    staysTrue();
    allSmall();
    larger();
    Check.end();
  }

  private static void named() {
    is("one byte", 2, program(9), 1, 9, 0);
    is("two alike: one run", 2, program(9, 9), 2, 9, 9, 0);
    is("three alike: a copy", 2, program(9, 9, 9), 1, 9, 128, 1, 0);
    is("a copy is before a run", 1, program(1, 2, 3, 1, 2, 3, 1, 2), 3, 1, 2, 3, 131, 3, 0);
    is("run that ends with two alike is one run", 2, program(1, 2, 1, 2), 2, 1, 2, 128, 2, 0);
    is("the nearest distance", 1, program(1, 1, 1, 1, 1, 1, 1, 1), 1, 1, 133, 1, 0);
    SelfOpener x = Check.program(5);
    x.again(1, 129);
    is("the longest copy", 1, x, 1, 5, 255, 1, 0);
    x.again(1, 1);
    is("a run of two, then the longest copy", 1, x, 2, 5, 5, 255, 1, 0);
    x.again(1, 1);
    is("of two copies the longer first", 1, x, 1, 5, 255, 1, 128, 1, 0);
    SelfOpener y = Check.program(Check.different(127));
    Check.due("127 in one run", y.packed(), 129);
    Check.due("gap of it", y.gap(), 2);
    y.put(127, 1);
    Check.due("128 in two", y.packed(), 131);
    Check.due("the shorter run is first", y.stream(0), 1);
    Check.due("gap of two", y.gap(), 3);
  }

  private static SelfOpener program(int... bytes) {
    return Check.program(bytes);
  }

  private static void is(String what, int gap, SelfOpener x, int... stream) {
    Check.same(what, Check.streamOf(x), stream);
    Check.due(what + ": gap", x.gap(), gap);
  }

  private static void wrongIndices() {
    SelfOpener x = Check.program(1, 2);
    String index = "throws.IndexOutOfBoundsException";
    Check.answers("stream(4)", index, () -> x.stream(4));
    Check.answers("stream(-1)", index, () -> x.stream(-1));
    Check.answers("stream(MOST)", index, () -> x.stream(Integer.MAX_VALUE));
    Check.answers("stream(LEAST)", index, () -> x.stream(Integer.MIN_VALUE));
    Check.answers("stream(3)", "0", () -> x.stream(3));
  }

  /** The stream is that of the program as it is now, whatever changed it. */
  private static void staysTrue() {
    SelfOpener x = Check.program(4, 4, 4, 4, 4);
    is("before", 1, x, 1, 4, 130, 1, 0);
    x.change(4, 5);
    is("changed", 2, x, 1, 4, 129, 1, 1, 5, 0);
    x.again(5, 5);
    is("again", 1, x, 1, 4, 129, 1, 1, 5, 131, 5, 0);
    x.cut(4);
    is("cut", 1, x, 1, 4, 129, 1, 0);
    x.put(4, 1);
    is("put", 1, x, 1, 4, 130, 1, 0);
    x.cut(0);
    Check.add(x, 2, 8, 9, 129, 2, 0);
    is("a stream as a program", 2, x, 6, 2, 8, 9, 129, 2, 0, 0);
    x.unpack();
    is("unpacked", 1, x, 2, 8, 9, 129, 2, 0);
  }

  /** All programs of up to nine bytes out of two, and up to six out of three. */
  private static void allSmall() {
    for (int n = 0; n <= 9; n++) {
      all(new int[n], 0, 2);
    }
    for (int n = 0; n <= 6; n++) {
      all(new int[n], 0, 3);
    }
  }

  private static void all(int[] bytes, int from, int kinds) {
    if (from == bytes.length) {
      beside(bytes, searched(bytes));
      return;
    }
    for (int v = 0; v < kinds; v++) {
      bytes[from] = v;
      all(bytes, from + 1, kinds);
    }
  }

  private static void beside(int[] bytes, List<int[]> tokens) {
    SelfOpener x = Check.program(bytes);
    int[] stream = written(bytes, tokens);
    String what = "stream of " + java.util.Arrays.toString(bytes);
    Check.same(what, Check.streamOf(x), stream);
    Check.due("gap of " + java.util.Arrays.toString(bytes), x.gap(), gapOf(bytes.length, stream.length, tokens));
  }

  /** A token here: {how many bytes it makes, its distance or 0 of a run}. */
  private static int[] written(int[] bytes, List<int[]> tokens) {
    List<Integer> row = new ArrayList<>();
    int at = 0;
    for (int[] t : tokens) {
      row.add(t[1] > 0 ? t[0] + 126 : t[0]);
      for (int i = 0; i < t[0] && t[1] == 0; i++) {
        row.add(bytes[at + i]);
      }
      if (t[1] > 0) {
        row.add(t[1]);
      }
      at += t[0];
    }
    row.add(0);
    return row.stream().mapToInt(Integer::intValue).toArray();
  }

  private static int gapOf(int n, int c, List<int[]> tokens) {
    for (int g = 0; ; g++) {
      boolean fits = n + g >= c;
      int w = 0;
      int r = 0;
      for (int[] t : tokens) {
        w += t[0];
        r += t[1] > 0 ? 2 : 1 + t[0];
        fits &= w <= n + g - c + r;
      }
      if (fits) {
        return g;
      }
    }
  }

  /** Walks through every stream of the program and keeps the one that comes first. */
  private static List<int[]> searched(int[] bytes) {
    List<List<int[]>> best = new ArrayList<>();
    search(bytes, 0, new ArrayList<>(), best);
    return best.get(0);
  }

  private static void search(int[] bytes, int at, List<int[]> tokens, List<List<int[]>> best) {
    if (at == bytes.length) {
      if (best.isEmpty() || isBefore(tokens, best.get(0))) {
        best.clear();
        best.add(new ArrayList<>(tokens));
      }
      return;
    }
    for (int n = 1; at + n <= bytes.length; n++) {
      for (int d = 0; d <= at; d++) {
        if (d == 0 || n > 1 && isCopy(bytes, at, n, d)) {
          tokens.add(new int[] {n, d});
          search(bytes, at + n, tokens, best);
          tokens.remove(tokens.size() - 1);
        }
      }
    }
  }

  private static boolean isCopy(int[] bytes, int at, int n, int d) {
    for (int i = at; i < at + n; i++) {
      if (bytes[i] != bytes[i - d]) {
        return false;
      }
    }
    return true;
  }

  private static boolean isBefore(List<int[]> a, List<int[]> b) {
    if (cost(a) != cost(b)) {
      return cost(a) < cost(b);
    }
    for (int i = 0; i < Math.min(a.size(), b.size()); i++) {
      int order = order(a.get(i), b.get(i));
      if (order != 0) {
        return order < 0;
      }
    }
    return false;
  }

  private static int order(int[] a, int[] b) {
    if (a[1] > 0 != b[1] > 0) {
      return a[1] > 0 ? -1 : 1;
    }
    if (a[1] == 0) {
      return Integer.compare(a[0], b[0]);
    }
    return a[0] != b[0] ? Integer.compare(b[0], a[0]) : Integer.compare(a[1], b[1]);
  }

  private static int cost(List<int[]> tokens) {
    int cost = 1;
    for (int[] t : tokens) {
      cost += t[1] > 0 ? 2 : 1 + t[0];
    }
    return cost;
  }

  /** Larger programs beside a slower reckoning that tries every length at every distance. */
  private static void larger() {
    Random random = new Random(7);
    for (int k = 0; k < 1500; k++) {
      int n = random.nextInt(161);
      int kinds = 1 + random.nextInt(k % 3 == 0 ? 255 : 4);
      int[] bytes = new int[n];
      for (int i = 0; i < n; i++) {
        int back = 1 + random.nextInt(i + 1);
        bytes[i] = k % 2 == 0 && i > 3 && random.nextInt(8) > 0 ? bytes[i - Math.min(i, 1 + k % 7)]
            : back <= i && random.nextInt(3) == 0 ? bytes[i - back] : random.nextInt(kinds);
      }
      beside(bytes, reckoned(bytes));
    }
  }

  private static List<int[]> reckoned(int[] bytes) {
    int n = bytes.length;
    int[] least = new int[n + 1];
    int[][] first = new int[n][];
    least[n] = 1;
    for (int at = n - 1; at >= 0; at--) {
      least[at] = Integer.MAX_VALUE;
      for (int m = 1; at + m <= n && m <= 129; m++) {
        for (int d = 0; d <= at; d++) {
          if (d == 0 ? m <= 127 : m > 1 && isCopy(bytes, at, m, d)) {
            int[] token = {m, d};
            int c = (d > 0 ? 2 : 1 + m) + least[at + m];
            if (c < least[at] || c == least[at] && order(token, first[at]) < 0) {
              least[at] = c;
              first[at] = token;
            }
          }
        }
      }
    }
    List<int[]> tokens = new ArrayList<>();
    for (int at = 0; at < n; at += first[at][0]) {
      tokens.add(first[at]);
    }
    return tokens;
  }
}
