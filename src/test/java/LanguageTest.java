import java.io.IOException;
import java.nio.file.Files;
import java.nio.file.Path;
import java.util.List;
import java.util.regex.Matcher;
import java.util.regex.Pattern;

/** A coarse look for what ../shared/LANGUAGE.md rules out; run from the project's folder. */
public final class LanguageTest {
  private static final String[] RULED_OUT = {
    "->", "::", "\\bassert\\b", "\\bfinally\\b", "\\bsynchronized\\b", "\\bnative\\b", "^package\\b",
    "\\bstatic\\s*\\{", "\\bMath\\.(?!min|max|abs|floorDiv|floorMod)", "\\bSystem\\.(?!arraycopy)",
    "\\bwhile \\(true\\)", "\\bhashCode\\b", "\\btoString\\b", "\\bequals\\b", "^\\s*protected\\b"
  };

  public static void main(String[] args) throws IOException {
    List<String> lines = Files.readAllLines(Path.of("src/main/java/SelfOpener.java"));
    int longest = 0;
    int begun = 0;
    for (int i = 0; i < lines.size(); i++) {
      String line = lines.get(i);
      String code = line.replaceAll("//.*|^\\s*/?\\*.*", "");
      for (String ruledOut : RULED_OUT) {
        Matcher m = Pattern.compile(ruledOut).matcher(code);
        if (m.find()) {
          Check.wrong("line " + (i + 1) + ": " + m.group());
        }
      }
      if (code.startsWith("import ") && !code.equals("import java.util.NoSuchElementException;")) {
        Check.wrong("line " + (i + 1) + ": " + code);
      }
      if (code.matches("  (  )?[^ ].*\\) .*\\{")) {
        begun = i;
      }
      if (code.matches("  (  )?}")) {
        longest = Math.max(longest, i - begun);
      }
    }
    Check.due("a method stays short", longest <= 60, true);
    Check.end();
  }
}
