/** What all tests share: counting wrong answers, and making programs. */
final class Check {
  private static int wrong = 0;

  private Check() {}

  /** A call whose answer, or whose exception, is looked at. */
  interface Call {
    Object make();
  }

  /** A call without an answer. */
  interface Deed {
    void make();
  }

  static void due(String what, long got, long want) {
    if (got != want) {
      wrong("" + what + " answered " + got + ", due is " + want);
    }
  }

  static void due(String what, boolean got, boolean want) {
    if (got != want) {
      wrong(what + " answered " + got + ", due is " + want);
    }
  }

  static void wrong(String text) {
    wrong++;
    if (wrong <= 50) {
      System.out.println(text);
    }
  }

  /** The answer as a text, or the name of the exception behind "throws.". */
  static String answer(Call call) {
    try {
      return String.valueOf(call.make());
    } catch (RuntimeException e) {
      return "throws." + e.getClass().getSimpleName();
    }
  }

  static void answers(String what, String want, Call call) {
    String got = answer(call);
    if (!got.equals(want)) {
      wrong(what + " answered " + got + ", due is " + want);
    }
  }

  static void does(String what, String want, Deed deed) {
    answers(what, want, () -> {
      deed.make();
      return "nothing";
    });
  }

  static void end() {
    if (wrong > 0) {
      System.out.println(wrong + " wrong");
      System.exit(1);
    }
  }

  /** Puts the bytes behind the program, up to eight a call. */
  static void add(SelfOpener x, int... bytes) {
    for (int from = 0; from < bytes.length; from += 8) {
      int n = Math.min(8, bytes.length - from);
      long w = 0;
      for (int i = n - 1; i >= 0; i--) {
        w = w << 8 | bytes[from + i];
      }
      due("put of " + n + " bytes", x.put(w, n), true);
    }
  }

  static SelfOpener program(int... bytes) {
    SelfOpener x = new SelfOpener();
    add(x, bytes);
    return x;
  }

  static SelfOpener placed(int origin, int entry, int... bytes) {
    SelfOpener x = program(bytes);
    x.place(origin, entry);
    return x;
  }

  /** So many bytes, no two alike. */
  static int[] different(int n) {
    int[] bytes = new int[n];
    for (int i = 0; i < n; i++) {
      bytes[i] = i;
    }
    return bytes;
  }

  /** The bytes of the program, as the machine has them when it is loaded at 0 (the machine changes). */
  static int[] bytesOf(SelfOpener x) {
    x.place(0, 0);
    x.load();
    int[] bytes = new int[x.size()];
    for (int i = 0; i < bytes.length; i++) {
      bytes[i] = x.memory(i);
    }
    return bytes;
  }

  static int[] streamOf(SelfOpener x) {
    int[] bytes = new int[x.packed()];
    for (int i = 0; i < bytes.length; i++) {
      bytes[i] = x.stream(i);
    }
    return bytes;
  }

  static void same(String what, int[] got, int... want) {
    if (!java.util.Arrays.equals(got, want)) {
      wrong(what + ": " + java.util.Arrays.toString(got) + ", due is " + java.util.Arrays.toString(want));
    }
  }
}
