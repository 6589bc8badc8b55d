import java.lang.reflect.InvocationTargetException;
import java.lang.reflect.Method;
import java.lang.reflect.Modifier;
import java.util.Arrays;
import java.util.Comparator;

/** What all tests share: running them one by one, counting wrong answers, and making programs. */
final class Check {
  static final int LEAST = Integer.MIN_VALUE;
  static final int MOST = Integer.MAX_VALUE;
  static final String NO_ELEMENT = "throws.NoSuchElementException";
  static final String STATE = "throws.IllegalStateException";
  static final String ARGUMENT = "throws.IllegalArgumentException";
  static final String INDEX = "throws.IndexOutOfBoundsException";
  static final String UNSUPPORTED = "throws.UnsupportedOperationException";

  private static String test = "";
  private static int wrong = 0;
  private static int wrongOfTest = 0;

  private Check() {}

  /** A call whose answer, or whose exception, is looked at. */
  interface Call {
    Object make();
  }

  /** A call without an answer. */
  interface Deed {
    void make();
  }

  /** Makes the same object each time. */
  interface Maker {
    SelfOpener make();
  }

  /** A call on an object that is given. */
  interface On {
    Object call(SelfOpener x);
  }

  /** Runs every static method without parameters that is not private: each is a test of its own. */
  static void run(Class<?> tests) {
    Method[] methods = tests.getDeclaredMethods();
    Arrays.sort(methods, Comparator.comparing(Method::getName));
    int count = 0;
    for (Method m : methods) {
      boolean isTest = Modifier.isStatic(m.getModifiers()) && !Modifier.isPrivate(m.getModifiers());
      if (isTest && m.getParameterCount() == 0) {
        test = m.getName();
        wrongOfTest = 0;
        count++;
        runOne(m);
      }
    }
    if (count == 0) {
      wrong("no test in " + tests.getName());
    }
    if (wrong > 0) {
      System.out.println(wrong + " wrong");
      System.exit(1);
    }
    System.out.println(count + " tests");
  }

  private static void runOne(Method m) {
    try {
      m.invoke(null);
    } catch (InvocationTargetException e) {
      wrong("threw " + e.getCause());
    } catch (IllegalAccessException e) {
      wrong("can't be called");
    }
  }

  static void wrong(String text) {
    wrong++;
    wrongOfTest++;
    if (wrongOfTest <= 5) {
      System.out.println(test + ": " + text);
    }
  }

  static void due(String what, long got, long want) {
    if (got != want) {
      wrong(what + " answered " + got + ", due is " + want);
    }
  }

  static void due(String what, boolean got, boolean want) {
    if (got != want) {
      wrong(what + " answered " + got + ", due is " + want);
    }
  }

  static void same(String what, int[] got, int... want) {
    if (!Arrays.equals(got, want)) {
      wrong(what + ": " + Arrays.toString(got) + ", due is " + Arrays.toString(want));
    }
  }

  private static void same(String what, String got, String want) {
    if (!got.equals(want)) {
      wrong(what + " " + got + ", due is " + want);
    }
  }

  /** The answer as a text, or the name of the exception behind "throws.". */
  static String answer(Call call) {
    try {
      return String.valueOf(call.make());
    } catch (RuntimeException e) {
      return "throws." + e.getClass().getSimpleName();
    }
  }

  /** The same of a call without an answer, which is "nothing". */
  static String answerOf(Deed deed) {
    return answer(() -> {
      deed.make();
      return "nothing";
    });
  }

  static void answers(String what, String want, Call call) {
    same(what + " answered", answer(call), want);
  }

  static void does(String what, String want, Deed deed) {
    same(what + " answered", answerOf(deed), want);
  }

  /** The call answers so, and leaves the object as it was. */
  static void leaves(String what, String want, Maker maker, On call) {
    SelfOpener x = maker.make();
    answers(what, want, () -> call.call(x));
    same(what + " left", state(x), state(maker.make()));
    SelfOpener y = maker.make();
    answers(what, want, () -> call.call(y));
    same(what + " left", placeOf(y), placeOf(maker.make()));
  }

  /** All that calls without a change tell; with what made the object it stays below 512 calls. */
  private static String state(SelfOpener x) {
    return "size " + x.size() + " gap " + x.gap() + " stream " + Arrays.toString(streamOf(x)) + " machine " + machine(x);
  }

  static String machine(SelfOpener x) {
    StringBuilder text = new StringBuilder();
    for (int i = 0; i <= 11; i++) {
      text.append(x.look(i)).append(' ');
    }
    for (int i = 0; i < 256; i++) {
      text.append(x.memory(i)).append(' ');
    }
    for (int i = Math.max(0, x.look(11) - 32); i < x.look(11); i++) {
      text.append(x.out(i)).append(' ');
    }
    return text.toString();
  }

  /** Origin and entry, which are seen only when something is loaded. */
  private static String placeOf(SelfOpener x) {
    x.cut(0);
    add(x, 77);
    x.load();
    int origin = 0;
    while (origin < 255 && x.memory(origin) != 77) {
      origin++;
    }
    return "origin " + origin + " entry " + x.look(8);
  }

  /** Puts the bytes behind the program, up to eight a call. */
  static void add(SelfOpener x, int... bytes) {
    for (int from = 0; from < bytes.length; from += 8) {
      int n = Math.min(8, bytes.length - from);
      long w = 0;
      for (int i = n - 1; i >= 0; i--) {
        w = w << 8 | bytes[from + i];
      }
      due("put of " + n + " bytes", x.put(w, n), true);
    }
  }

  static SelfOpener program(int... bytes) {
    SelfOpener x = new SelfOpener();
    add(x, bytes);
    return x;
  }

  static SelfOpener placed(int origin, int entry, int... bytes) {
    SelfOpener x = program(bytes);
    x.place(origin, entry);
    return x;
  }

  /** So many bytes, no two alike. */
  static int[] different(int n) {
    int[] bytes = new int[n];
    for (int i = 0; i < n; i++) {
      bytes[i] = i;
    }
    return bytes;
  }

  /** The rows one behind the other. */
  static int[] joined(int[]... rows) {
    int[] all = new int[0];
    for (int[] row : rows) {
      all = Arrays.copyOf(all, all.length + row.length);
      System.arraycopy(row, 0, all, all.length - row.length, row.length);
    }
    return all;
  }

  /** So many bytes, all alike. */
  static int[] alike(int n, int v) {
    int[] bytes = new int[n];
    Arrays.fill(bytes, v);
    return bytes;
  }

  /** An object whose machine has registers, memory, steps and bytes put out, and another program by now. */
  static SelfOpener worked() {
    SelfOpener x = placed(10, 10, 0x11, 42, 0x12, 200, 0x61, 2, 0xE1, 0, 0xE2, 0, 0x47, 3, 0x80, 20);
    x.load();
    x.run(9, -1);
    x.cut(0);
    add(x, 5, 6, 7, 5, 6, 7, 5, 6, 7, 0);
    x.place(30, 31);
    return x;
  }

  /** The same with these bytes as its program. */
  static SelfOpener workedWith(int origin, int... bytes) {
    SelfOpener x = worked();
    x.cut(0);
    add(x, bytes);
    x.place(origin, 5);
    return x;
  }

  /** The bytes of the program, as the machine has them when it is loaded at 0 (the machine changes). */
  static int[] bytesOf(SelfOpener x) {
    x.place(0, 0);
    x.load();
    int[] bytes = new int[x.size()];
    for (int i = 0; i < bytes.length; i++) {
      bytes[i] = x.memory(i);
    }
    return bytes;
  }

  static int[] memoryOf(SelfOpener x) {
    int[] bytes = new int[256];
    for (int i = 0; i < bytes.length; i++) {
      bytes[i] = x.memory(i);
    }
    return bytes;
  }

  static int[] streamOf(SelfOpener x) {
    int[] bytes = new int[x.packed()];
    for (int i = 0; i < bytes.length; i++) {
      bytes[i] = x.stream(i);
    }
    return bytes;
  }
}
