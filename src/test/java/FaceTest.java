import java.lang.reflect.Constructor;
import java.lang.reflect.Field;
import java.lang.reflect.Method;
import java.lang.reflect.Modifier;
import java.util.Set;
import java.util.TreeSet;

/** The public face is that of the document, and nothing else can be reached. */
public final class FaceTest {
  private static final String[] FACE = {
    "boolean put(long,int) []",
    "boolean again(int,int) []",
    "void change(int,int) [IndexOutOfBoundsException, IllegalArgumentException]",
    "void cut(int) [IllegalArgumentException]",
    "void place(int,int) [IllegalArgumentException]",
    "int size() []",
    "int packed() []",
    "int stream(int) [IndexOutOfBoundsException]",
    "int gap() []",
    "int unpack() [NoSuchElementException, IllegalStateException, IllegalArgumentException, UnsupportedOperationException]",
    "void load() [IllegalStateException]",
    "int loadPacked() [UnsupportedOperationException]",
    "int run(int,int) [IllegalArgumentException]",
    "int look(int) [IndexOutOfBoundsException]",
    "int memory(int) [IndexOutOfBoundsException]",
    "int out(int) [IndexOutOfBoundsException]",
    "int apart() [IllegalStateException, UnsupportedOperationException]",
  };

  public static void main(String[] args) {
    Class<?> face = SelfOpener.class;
    Check.due("public", Modifier.isPublic(face.getModifiers()), true);
    Check.due("final", Modifier.isFinal(face.getModifiers()), true);
    Constructor<?>[] makers = face.getDeclaredConstructors();
    Check.due("constructors", makers.length, 1);
    Check.due("constructor is public", Modifier.isPublic(makers[0].getModifiers()), true);
    Check.due("constructor's parameters", makers[0].getParameterCount(), 0);
    checkMethods(face);
    for (Field f : face.getDeclaredFields()) {
      Check.due("private field " + f.getName(), Modifier.isPrivate(f.getModifiers()), true);
    }
    for (Class<?> inside : face.getDeclaredClasses()) {
      Check.due("class inside is not public " + inside, Modifier.isPublic(inside.getModifiers()), false);
    }
    Check.end();
  }

  private static void checkMethods(Class<?> face) {
    Set<String> want = new TreeSet<>(java.util.Arrays.asList(FACE));
    Set<String> got = new TreeSet<>();
    Set<String> open = new TreeSet<>();
    for (Method m : face.getDeclaredMethods()) {
      if (!Modifier.isPrivate(m.getModifiers())) {
        got.add(told(m));
        open.add(m.getName());
      }
    }
    if (!got.equals(want)) {
      Check.wrong("the face is " + got);
    }
    for (Method m : face.getDeclaredMethods()) {
      if (Modifier.isPrivate(m.getModifiers()) && open.contains(m.getName())) {
        Check.wrong("private method with a public name: " + m.getName());
      }
    }
  }

  private static String told(Method m) {
    StringBuilder text = new StringBuilder();
    text.append(m.getReturnType().getSimpleName()).append(' ').append(m.getName()).append('(');
    Class<?>[] parameters = m.getParameterTypes();
    for (int i = 0; i < parameters.length; i++) {
      text.append(i == 0 ? "" : ",").append(parameters[i].getSimpleName());
    }
    java.util.List<String> thrown = new java.util.ArrayList<>();
    for (Class<?> e : m.getExceptionTypes()) {
      thrown.add(e.getSimpleName());
    }
    return text.append(") ").append(thrown).toString();
  }
}
