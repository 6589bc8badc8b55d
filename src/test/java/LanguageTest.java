import java.io.IOException;
import java.io.UncheckedIOException;
import java.lang.reflect.Field;
import java.lang.reflect.Method;
import java.lang.reflect.Modifier;
import java.nio.file.Files;
import java.nio.file.Path;
import java.util.ArrayList;
import java.util.Arrays;
import java.util.List;
import java.util.regex.Matcher;
import java.util.regex.Pattern;

/** A coarse look for what ../shared/LANGUAGE.md rules out; run from the project's folder. */
public final class LanguageTest {
  private static final String[] RULED_OUT = {
    "^(?!\\s*(case|default)\\b).*->", "::", "\\bassert\\b", "\\bfinally\\b", "\\bsynchronized\\b", "\\bnative\\b",
    "^package\\b", "\\bstatic\\s*\\{", "\\bMath\\.\\w*Exact\\b", "\\bMath\\.(random|sqrt|pow|ceil|floor|round)\\(",
    "\\bSystem\\.(?!arraycopy)", "\\bwhile \\(true\\)", "\\bhashCode\\b", "\\bString toString\\(\\) *\\{",
    "\\bboolean equals\\(", "\\bObject\\b", "\\bprotected\\b"
  };
  private static final String IMPORT = "import java\\.util\\.(NoSuchElementException|ArrayList|List|Arrays|Iterator);";

  private static final String THROW = "throw new (IllegalState|IllegalArgument|IndexOutOfBounds|Arithmetic"
      + "|UnsupportedOperation|NoSuchElement|Runtime)Exception\\((\"[^\"]*\")?\\);";
  private static final List<Class<?>> STATIC_TYPES = List.of(int.class, long.class, boolean.class, char.class,
      String.class, int[].class, long[].class, char[].class, byte[].class);

  public static void main(String[] args) {
    Check.run(LanguageTest.class);
  }

  private static List<String> lines() {
    try {
      return Files.readAllLines(Path.of("src/main/java/SelfOpener.java"));
    } catch (IOException e) {
      throw new UncheckedIOException(e);
    }
  }

  private static String code(String line) {
    return line.replaceAll("//.*|^\\s*/?\\*.*", "");
  }

  static void nothingRuledOut() {
    int number = 0;
    for (String line : lines()) {
      number++;
      for (String ruledOut : RULED_OUT) {
        Matcher m = Pattern.compile(ruledOut).matcher(code(line));
        if (m.find()) {
          Check.wrong("line " + number + ": " + m.group());
        }
      }
    }
  }

  static void noOtherLibrary() {
    for (String line : lines()) {
      if (line.startsWith("import ") && !line.matches(IMPORT)) {
        Check.wrong(line);
      }
    }
  }

  static void methodsStayShort() {
    int begun = 0;
    int number = 0;
    for (String line : lines()) {
      number++;
      if (code(line).matches("  (  )?[^ ].*\\) .*\\{")) {
        begun = number;
      }
      if (code(line).matches("  (  )?}") && number - begun > 60 && begun > 0) {
        Check.wrong("the method at line " + begun + " is long");
      }
    }
  }

  private static List<Class<?>> classes() {
    List<Class<?>> all = new ArrayList<>(Arrays.asList(SelfOpener.class.getDeclaredClasses()));
    all.add(SelfOpener.class);
    return all;
  }

  // Rule 5: "Static fields are final: constants of int, long, boolean, char or String, ... arrays of int, ...".
  static void staticFieldsAreConstants() {
    for (Class<?> c : classes()) {
      for (Field f : c.getDeclaredFields()) {
        boolean isConstant = Modifier.isFinal(f.getModifiers()) && STATIC_TYPES.contains(f.getType());
        if (Modifier.isStatic(f.getModifiers()) && !isConstant) {
          Check.wrong("static " + f);
        }
      }
    }
  }

  // Rule 6: "throw new E() or throw new E("a written text")".
  static void throwsOnlyWhatMayBeThrown() {
    for (String line : lines()) {
      if (code(line).matches(".*\\bthrow\\b.*") && !code(line).strip().matches(THROW)) {
        Check.wrong(line);
      }
    }
  }

  // Rule 1: "the classes inside it, which are private or package-visible and static".
  static void classesInsideAreStatic() {
    for (Class<?> c : SelfOpener.class.getDeclaredClasses()) {
      Check.due("static " + c, Modifier.isStatic(c.getModifiers()), true);
    }
  }

  // Rule 11: "at most seven parameters", "at most some twelve classes, and a class some twenty fields".
  static void nothingIsTooLarge() {
    Check.due("few classes", classes().size() <= 12, true);
    for (Class<?> c : classes()) {
      int fields = 0;
      for (Field f : c.getDeclaredFields()) {
        fields += Modifier.isStatic(f.getModifiers()) ? 0 : 1;
      }
      Check.due("few fields in " + c, fields <= 20, true);
      for (Method m : c.getDeclaredMethods()) {
        Check.due("few parameters of " + m, m.getParameterCount() <= 7, true);
      }
    }
  }
}
