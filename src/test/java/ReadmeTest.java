import java.io.IOException;
import java.io.UncheckedIOException;
import java.lang.reflect.InvocationTargetException;
import java.lang.reflect.Method;
import java.lang.reflect.Modifier;
import java.nio.file.DirectoryStream;
import java.nio.file.Files;
import java.nio.file.Path;
import java.util.ArrayList;
import java.util.List;
import java.util.Set;
import java.util.TreeSet;
import java.util.regex.Matcher;
import java.util.regex.Pattern;

/** What README.md says holds; run from the project's folder. */
public final class ReadmeTest {
  private static final String FIRST = "SelfOpener x = new SelfOpener();";
  private static final Pattern CALL = Pattern.compile("x\\.(\\w+)\\((.*)\\); +// (throws \\w+|-?\\w+)(: .+)?");
  private static final Pattern CALL_ROW = Pattern.compile("\\| `(\\w+)\\((.*)\\)` \\| .+ \\|(.*)\\|");
  private static final Pattern TEST_ROW = Pattern.compile("\\| (\\w+Test) \\| .+ \\|");

  public static void main(String[] args) {
    Check.run(ReadmeTest.class);
  }

  private static List<String> lines() {
    try {
      return Files.readAllLines(Path.of("README.md"));
    } catch (IOException e) {
      throw new UncheckedIOException(e);
    }
  }

  private static List<String> example() {
    List<String> all = lines();
    int from = all.indexOf("```java") + 1;
    int to = from + all.subList(from, all.size()).indexOf("```");
    return all.subList(from, to);
  }

  private static Method method(String name) {
    for (Method m : SelfOpener.class.getDeclaredMethods()) {
      if (Modifier.isPublic(m.getModifiers()) && m.getName().equals(name)) {
        return m;
      }
    }
    throw new IllegalStateException("no call " + name);
  }

  private static List<String> parted(String row) {
    List<String> parts = new ArrayList<>();
    for (String part : row.split(",")) {
      if (!part.isBlank()) {
        parts.add(part.strip());
      }
    }
    return parts;
  }

  // Each call of the example answers what stands behind it.
  static void exampleAnswersAsItSays() {
    List<String> rows = example();
    Check.answers("the first line", FIRST, () -> rows.get(0));
    SelfOpener x = new SelfOpener();
    for (String row : rows.subList(1, rows.size())) {
      Matcher m = CALL.matcher(row);
      if (m.matches()) {
        Check.answers(row, m.group(3), () -> made(x, method(m.group(1)), parted(m.group(2))));
      } else {
        Check.wrong("no call and answer: " + row);
      }
    }
  }

  private static Object made(SelfOpener x, Method call, List<String> given) {
    Object[] values = new Object[given.size()];
    for (int i = 0; i < values.length; i++) {
      long v = Long.decode(given.get(i).replaceAll("[_L]", ""));
      values[i] = call.getParameterTypes()[i] == long.class ? (Object) v : (Object) (int) v;
    }
    try {
      Object answer = call.invoke(x, values);
      return answer == null ? "nothing" : answer;
    } catch (InvocationTargetException e) {
      return "throws " + e.getCause().getClass().getSimpleName();
    } catch (IllegalAccessException e) {
      return "can't be called";
    }
  }

  // What the example says of the stream: byte by byte.
  static void streamOfTheExample() {
    SelfOpener x = Check.program(16, 7, 224, 0);
    Check.due("again", x.again(1, 22), true);
    Check.same("stream", Check.streamOf(x), 4, 16, 7, 224, 0, 148, 1, 0);
  }

  // Every call has one row, with as many parameters, and the exceptions in the order of the face.
  static void everyCallHasARow() {
    Set<String> told = new TreeSet<>();
    for (String line : lines()) {
      Matcher m = CALL_ROW.matcher(line);
      if (m.matches()) {
        Method call = method(m.group(1));
        Check.due("a first row of " + m.group(1), told.add(m.group(1)), true);
        Check.due("parameters of " + m.group(1), parted(m.group(2)).size(), call.getParameterCount());
        Check.answers("refusals of " + m.group(1), refusals(call), () -> m.group(3).strip());
      }
    }
    Set<String> open = new TreeSet<>();
    for (Method m : SelfOpener.class.getDeclaredMethods()) {
      if (Modifier.isPublic(m.getModifiers())) {
        open.add(m.getName());
      }
    }
    Check.answers("the rows of calls", open.toString(), told::toString);
  }

  private static String refusals(Method call) {
    if (call.getReturnType() == boolean.class) {
      return "false";
    }
    List<String> names = new ArrayList<>();
    for (Class<?> e : call.getExceptionTypes()) {
      names.add(e.getSimpleName());
    }
    return String.join(", ", names);
  }

  // Every class of tests has a row, and no other.
  static void everyTestHasARow() {
    Set<String> told = new TreeSet<>();
    for (String line : lines()) {
      Matcher m = TEST_ROW.matcher(line);
      if (m.matches()) {
        told.add(m.group(1));
      }
    }
    Set<String> there = new TreeSet<>();
    try (DirectoryStream<Path> files = Files.newDirectoryStream(Path.of("src/test/java"), "*Test.java")) {
      for (Path file : files) {
        there.add(file.getFileName().toString().replace(".java", ""));
      }
    } catch (IOException e) {
      throw new UncheckedIOException(e);
    }
    Check.answers("the rows of tests", there.toString(), told::toString);
  }
}
