import java.lang.reflect.Constructor;
import java.lang.reflect.Field;
import java.lang.reflect.Method;
import java.lang.reflect.Modifier;
import java.util.ArrayList;
import java.util.Arrays;
import java.util.List;
import java.util.Set;
import java.util.TreeSet;

/** The public face is that of the document, and nothing else can be reached. */
public final class FaceTest {
  private static final String[] FACE = {
    "boolean put(long,int) []",
    "boolean again(int,int) []",
    "void change(int,int) [IndexOutOfBoundsException, IllegalArgumentException]",
    "void cut(int) [IllegalArgumentException]",
    "void place(int,int) [IllegalArgumentException]",
    "int size() []",
    "int packed() []",
    "int stream(int) [IndexOutOfBoundsException]",
    "int gap() []",
    "int unpack() [NoSuchElementException, IllegalStateException, IllegalArgumentException, UnsupportedOperationException]",
    "void load() [IllegalStateException]",
    "int loadPacked() [UnsupportedOperationException]",
    "int run(int,int) [IllegalArgumentException]",
    "int look(int) [IndexOutOfBoundsException]",
    "int memory(int) [IndexOutOfBoundsException]",
    "int out(int) [IndexOutOfBoundsException]",
    "int apart() [IllegalStateException, UnsupportedOperationException]",
  };

  public static void main(String[] args) {
    Check.run(FaceTest.class);
  }

  static void classIsPublicAndFinal() {
    Check.due("public", Modifier.isPublic(SelfOpener.class.getModifiers()), true);
    Check.due("final", Modifier.isFinal(SelfOpener.class.getModifiers()), true);
  }

  static void oneConstructor() {
    Constructor<?>[] makers = SelfOpener.class.getDeclaredConstructors();
    Check.due("constructors", makers.length, 1);
    Check.due("it is public", Modifier.isPublic(makers[0].getModifiers()), true);
    Check.due("its parameters", makers[0].getParameterCount(), 0);
  }

  static void noOpenField() {
    for (Field f : SelfOpener.class.getDeclaredFields()) {
      Check.due("private field " + f.getName(), Modifier.isPrivate(f.getModifiers()), true);
    }
  }

  static void noPublicClassInside() {
    for (Class<?> inside : SelfOpener.class.getDeclaredClasses()) {
      Check.due("open class " + inside, Modifier.isPublic(inside.getModifiers()), false);
    }
  }

  static void methodsAreThoseOfTheDocument() {
    Set<String> want = new TreeSet<>(Arrays.asList(FACE));
    Set<String> got = new TreeSet<>();
    for (Method m : SelfOpener.class.getDeclaredMethods()) {
      if (!Modifier.isPrivate(m.getModifiers())) {
        got.add(told(m));
        Check.due("public " + m.getName(), Modifier.isPublic(m.getModifiers()), true);
      }
    }
    if (!got.equals(want)) {
      Check.wrong("the face is " + got);
    }
  }

  static void noPrivateMethodWithAPublicName() {
    Set<String> open = new TreeSet<>();
    for (String method : FACE) {
      open.add(method.substring(method.indexOf(' ') + 1, method.indexOf('(')));
    }
    for (Method m : SelfOpener.class.getDeclaredMethods()) {
      if (Modifier.isPrivate(m.getModifiers()) && open.contains(m.getName())) {
        Check.wrong("private method " + m.getName());
      }
    }
  }

  private static String told(Method m) {
    List<String> parameters = new ArrayList<>();
    for (Class<?> p : m.getParameterTypes()) {
      parameters.add(p.getSimpleName());
    }
    List<String> thrown = new ArrayList<>();
    for (Class<?> e : m.getExceptionTypes()) {
      thrown.add(e.getSimpleName());
    }
    return m.getReturnType().getSimpleName() + " " + m.getName() + "(" + String.join(",", parameters) + ") " + thrown;
  }
}
