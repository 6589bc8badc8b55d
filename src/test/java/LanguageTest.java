import java.io.IOException;
import java.io.UncheckedIOException;
import java.nio.file.Files;
import java.nio.file.Path;
import java.util.List;
import java.util.regex.Matcher;
import java.util.regex.Pattern;

/** A coarse look for what ../shared/LANGUAGE.md rules out; run from the project's folder. */
public final class LanguageTest {
  private static final String[] RULED_OUT = {
    "^(?!\\s*(case|default)\\b).*->", "::", "\\bassert\\b", "\\bfinally\\b", "\\bsynchronized\\b", "\\bnative\\b",
    "^package\\b", "\\bstatic\\s*\\{", "\\bMath\\.\\w*Exact\\b", "\\bMath\\.(random|sqrt|pow|ceil|floor|round)\\(",
    "\\bSystem\\.(?!arraycopy)", "\\bwhile \\(true\\)", "\\bhashCode\\b", "\\bString toString\\(\\) *\\{",
    "\\bboolean equals\\(", "\\bObject\\b", "\\bprotected\\b"
  };
  private static final String IMPORT = "import java\\.util\\.(NoSuchElementException|ArrayList|List|Arrays|Iterator);";

  public static void main(String[] args) {
    Check.run(LanguageTest.class);
  }

  private static List<String> lines() {
    try {
      return Files.readAllLines(Path.of("src/main/java/SelfOpener.java"));
    } catch (IOException e) {
      throw new UncheckedIOException(e);
    }
  }

  private static String code(String line) {
    return line.replaceAll("//.*|^\\s*/?\\*.*", "");
  }

  static void nothingRuledOut() {
    int number = 0;
    for (String line : lines()) {
      number++;
      for (String ruledOut : RULED_OUT) {
        Matcher m = Pattern.compile(ruledOut).matcher(code(line));
        if (m.find()) {
          Check.wrong("line " + number + ": " + m.group());
        }
      }
    }
  }

  static void noOtherLibrary() {
    for (String line : lines()) {
      if (line.startsWith("import ") && !line.matches(IMPORT)) {
        Check.wrong(line);
      }
    }
  }

  static void methodsStayShort() {
    int begun = 0;
    int number = 0;
    for (String line : lines()) {
      number++;
      if (code(line).matches("  (  )?[^ ].*\\) .*\\{")) {
        begun = number;
      }
      if (code(line).matches("  (  )?}") && number - begun > 60 && begun > 0) {
        Check.wrong("the method at line " + begun + " is long");
      }
    }
  }
}
