import java.util.ArrayList;
import java.util.Arrays;
import java.util.List;
import java.util.NoSuchElementException;

/** The document told once more, as slowly and plainly as can be, for the tests to stand beside. */
final class Model {
  private int[] bytes = {};
  private int origin;
  private int entry;
  private final int[] memory = new int[256];
  private final int[] r = new int[8];
  private final List<Integer> out = new ArrayList<>();
  private int place;
  private int state = 1;
  private int steps;
  private int[] packedBytes;
  private List<int[]> packedTokens;

  boolean put(long w, int n) {
    if (n < 1 || n > 8 || bytes.length + n > 160) {
      return false;
    }
    for (int i = 0; i < n; i++) {
      grow((int) Math.floorMod(Math.floorDiv(w, 1L << 8 * i), 256L));
    }
    return true;
  }

  boolean again(int d, int n) {
    if (d < 1 || d > bytes.length || n < 0 || (long) bytes.length + n > 160) {
      return false;
    }
    for (int i = 0; i < n; i++) {
      grow(bytes[bytes.length - d]);
    }
    return true;
  }

  private void grow(int v) {
    bytes = Arrays.copyOf(bytes, bytes.length + 1);
    bytes[bytes.length - 1] = v;
  }

  void change(int i, int v) {
    if (i < 0 || i >= bytes.length) {
      throw new IndexOutOfBoundsException();
    }
    if (v < 0 || v > 255) {
      throw new IllegalArgumentException();
    }
    bytes = bytes.clone();
    bytes[i] = v;
  }

  void cut(int n) {
    if (n < 0 || n > bytes.length) {
      throw new IllegalArgumentException();
    }
    bytes = Arrays.copyOf(bytes, n);
  }

  void place(int newOrigin, int newEntry) {
    if (newOrigin < 0 || newOrigin > 255 || newEntry < 0 || newEntry > 255) {
      throw new IllegalArgumentException();
    }
    origin = newOrigin;
    entry = newEntry;
  }

  int size() {
    return bytes.length;
  }

  int[] bytes() {
    return bytes.clone();
  }

  int packed() {
    return streamOf(bytes, tokens()).length;
  }

  int stream(int i) {
    int[] stream = streamOf(bytes, tokens());
    if (i < 0 || i >= stream.length) {
      throw new IndexOutOfBoundsException();
    }
    return stream[i];
  }

  int gap() {
    return gapOf(bytes.length, packed(), tokens());
  }

  private List<int[]> tokens() {
    if (packedBytes != bytes) {
      packedTokens = tokensOf(bytes);
      packedBytes = bytes;
    }
    return packedTokens;
  }

  /** The first of the shortest streams; a token here: {how many bytes it makes, its distance or 0 of a run}. */
  static List<int[]> tokensOf(int[] bytes) {
    int n = bytes.length;
    int[] least = new int[n + 1];
    int[][] first = new int[n][];
    least[n] = 1;
    for (int at = n - 1; at >= 0; at--) {
      least[at] = Integer.MAX_VALUE;
      for (int d = 0; d <= at; d++) {
        for (int m = d > 0 ? 2 : 1; at + m <= n && (d > 0 ? isCopy(bytes, at, m, d) : m <= 127); m++) {
          int[] token = {m, d};
          int c = (d > 0 ? 2 : 1 + m) + least[at + m];
          boolean isFirst = c == least[at] && order(token, first[at]) < 0;
          if (c < least[at] || isFirst) {
            least[at] = c;
            first[at] = token;
          }
        }
      }
    }
    List<int[]> tokens = new ArrayList<>();
    for (int at = 0; at < n; at += first[at][0]) {
      tokens.add(first[at]);
    }
    return tokens;
  }

  static boolean isCopy(int[] bytes, int at, int n, int d) {
    if (n < 2 || n > 129) {
      return false;
    }
    for (int i = at; i < at + n; i++) {
      if (bytes[i] != bytes[i - d]) {
        return false;
      }
    }
    return true;
  }

  /** Which of two tokens is before the other, where two streams first differ. */
  static int order(int[] a, int[] b) {
    if (a[1] > 0 != b[1] > 0) {
      return a[1] > 0 ? -1 : 1;
    }
    if (a[1] == 0) {
      return Integer.compare(a[0], b[0]);
    }
    return a[0] != b[0] ? Integer.compare(b[0], a[0]) : Integer.compare(a[1], b[1]);
  }

  static int[] streamOf(int[] bytes, List<int[]> tokens) {
    List<Integer> row = new ArrayList<>();
    int at = 0;
    for (int[] t : tokens) {
      row.add(t[1] > 0 ? t[0] + 126 : t[0]);
      for (int i = 0; i < t[0] && t[1] == 0; i++) {
        row.add(bytes[at + i]);
      }
      if (t[1] > 0) {
        row.add(t[1]);
      }
      at += t[0];
    }
    row.add(0);
    return row.stream().mapToInt(Integer::intValue).toArray();
  }

  static int gapOf(int n, int c, List<int[]> tokens) {
    for (int g = 0; ; g++) {
      boolean fits = n + g >= c;
      int w = 0;
      int read = 0;
      for (int[] t : tokens) {
        w += t[0];
        read += t[1] > 0 ? 2 : 1 + t[0];
        fits &= w <= n + g - c + read;
      }
      if (fits) {
        return g;
      }
    }
  }

  int unpack() {
    List<Integer> row = new ArrayList<>();
    int at = 0;
    while (true) {
      if (at >= bytes.length) {
        throw new NoSuchElementException();
      }
      int t = bytes[at++];
      if (t == 0) {
        break;
      }
      int needs = t < 128 ? t : 1;
      if (bytes.length - at < needs) {
        throw new NoSuchElementException();
      }
      int d = t < 128 ? 0 : bytes[at];
      if (t >= 128 && (d < 1 || d > row.size())) {
        throw new IllegalArgumentException();
      }
      int makes = t < 128 ? t : t - 126;
      if (row.size() + makes > 160) {
        throw new UnsupportedOperationException();
      }
      for (int i = 0; i < makes; i++) {
        row.add(t < 128 ? bytes[at + i] : row.get(row.size() - d));
      }
      at += needs;
    }
    if (at < bytes.length) {
      throw new IllegalStateException();
    }
    bytes = row.stream().mapToInt(Integer::intValue).toArray();
    return bytes.length;
  }

  private boolean canLoad() {
    return origin + bytes.length <= 256;
  }

  private int layoutEnd() {
    return origin + bytes.length + gap() + 60;
  }

  private int[] loaded() {
    int[] row = new int[256];
    System.arraycopy(bytes, 0, row, origin, bytes.length);
    return row;
  }

  private void begin(int[] row, int first) {
    System.arraycopy(row, 0, memory, 0, 256);
    Arrays.fill(r, 0);
    out.clear();
    place = first;
    state = 0;
    steps = 0;
  }

  void load() {
    if (!canLoad()) {
      throw new IllegalStateException();
    }
    begin(loaded(), entry);
  }

  int loadPacked() {
    if (layoutEnd() > 256) {
      throw new UnsupportedOperationException();
    }
    int[] stream = streamOf(bytes, tokens());
    int a = origin + bytes.length + gap();
    int[] row = new int[256];
    System.arraycopy(stream, 0, row, a - stream.length, stream.length);
    System.arraycopy(stub(a, a - stream.length, origin, entry), 0, row, a, 60);
    begin(row, a);
    return bytes.length + gap() + 60;
  }

  static int[] stub(int a, int s, int o, int e) {
    return new int[] {
      17, s, 18, o, 83, 1, 65, 1, 147, a + 50, 163, a + 26, 84, 1, 100, 2, 65, 1, 66, 1, 67, 255,
      147, a + 4, 128, a + 12, 67, 130, 84, 1, 65, 1, 38, 2, 118, 4, 84, 6, 100, 2, 70, 1, 66, 1,
      67, 255, 147, a + 4, 128, a + 36, 17, 0, 18, 0, 20, 0, 22, 0, 128, e
    };
  }

  int run(int most, int until) {
    if (most < 0 || most > 4000 || until < -1 || until > 255) {
      throw new IllegalArgumentException();
    }
    int made = 0;
    while (made < most && state == 0 && place != until) {
      step();
      made++;
    }
    steps += made;
    return made;
  }

  private void step() {
    int x = memory[place];
    int y = memory[(place + 1) % 256];
    int i = x % 8;
    int q = r[y % 8];
    place = (place + 2) % 256;
    switch (x / 16) {
      case 0 -> state = 1;
      case 1 -> r[i] = y;
      case 2 -> r[i] = q;
      case 3 -> r[i] = (r[i] + q) % 256;
      case 4 -> r[i] = (r[i] + y) % 256;
      case 5 -> r[i] = memory[q];
      case 6 -> memory[q] = r[i];
      case 7 -> r[i] = (r[i] + 256 - q) % 256;
      case 8 -> place = y;
      case 9 -> place = r[i] == 0 ? y : place;
      case 10 -> place = r[i] > 127 ? y : place;
      case 11 -> place = r[i];
      case 12 -> r[i] = r[i] & q;
      case 13 -> r[i] = r[i] / (1 << y % 8);
      case 14 -> out.add(r[i]);
      default -> state = 2;
    }
  }

  int look(int what) {
    if (what < 0 || what > 11) {
      throw new IndexOutOfBoundsException();
    }
    return what < 8 ? r[what] : new int[] {place, state, steps, out.size()}[what - 8];
  }

  int memory(int i) {
    if (i < 0 || i > 255) {
      throw new IndexOutOfBoundsException();
    }
    return memory[i];
  }

  int out(int i) {
    if (i < 0 || i >= out.size() || i < out.size() - 32) {
      throw new IndexOutOfBoundsException();
    }
    return out.get(i);
  }

  int apart() {
    if (!canLoad()) {
      throw new IllegalStateException();
    }
    if (layoutEnd() > 256) {
      throw new UnsupportedOperationException();
    }
    int[] want = loaded();
    int count = 0;
    for (int i = 0; i < 256; i++) {
      boolean between = i >= origin + bytes.length && i < layoutEnd();
      count += !between && memory[i] != want[i] ? 1 : 0;
    }
    return count;
  }
}
