import java.lang.reflect.Constructor;
import java.lang.reflect.Field;
import java.lang.reflect.Method;
import java.lang.reflect.Modifier;
import java.util.Arrays;
import java.util.Set;
import java.util.TreeSet;

/** The class shows the document's face, and nothing else. */
public final class FaceTest {
  private static final Set<Class<?>> CONSTANTS = Set.of(int.class, long.class, boolean.class, char.class, String.class,
      int[].class, long[].class, char[].class, byte[].class);
  private static final String[] METHODS = {
      "int put(int, int, int, int) IndexOutOfBoundsException IllegalArgumentException IllegalStateException",
      "int remove(int) IndexOutOfBoundsException",
      "int move(int, int) IndexOutOfBoundsException",
      "int exchange(int, int) IndexOutOfBoundsException",
      "int fold(int, boolean) IndexOutOfBoundsException",
      "int arrange()",
      "int bridge(int, int) IllegalArgumentException IllegalStateException",
      "int unbridge(int) IndexOutOfBoundsException",
      "int set(int, int) IndexOutOfBoundsException IllegalArgumentException",
      "int append(int) IllegalArgumentException IllegalStateException",
      "int clearBuffer()",
      "int firstError()",
      "int putAll() IllegalArgumentException IllegalStateException",
      "int undo() IllegalStateException",
      "int floatAt(int, int) IndexOutOfBoundsException IllegalArgumentException",
      "int trouble(int, int) IndexOutOfBoundsException IllegalArgumentException",
      "int comes(int, int) IndexOutOfBoundsException",
      "int bridgeOf(int, int) IndexOutOfBoundsException IllegalArgumentException",
      "int count(int) IllegalArgumentException",
      "int setting(int) IndexOutOfBoundsException",
      "int ifMoved(int, int, int) IndexOutOfBoundsException IllegalArgumentException",
      "int bestPlace(int) IndexOutOfBoundsException",
      "int bestFold()",
      "int leastTrouble()",
      "double smoothness()",
      "long digest()"};

  public static void main(String[] args) throws ReflectiveOperationException {
    Class<?> face = FloatOrder.class;
    Check.holds("the class is public and final", face.getModifiers() == (Modifier.PUBLIC | Modifier.FINAL));
    TreeSet<String> due = new TreeSet<>(Arrays.asList(METHODS));
    TreeSet<String> found = new TreeSet<>();
    TreeSet<String> privateNames = new TreeSet<>();
    for (Method method : face.getDeclaredMethods()) {
      if (Modifier.isPrivate(method.getModifiers())) {
        privateNames.add(method.getName());
      } else {
        Check.holds(method + " is public alone", method.getModifiers() == Modifier.PUBLIC);
        found.add(told(method));
      }
    }
    Check.holds("methods " + found + ", due are " + due, found.equals(due));
    for (String method : due) {
      String name = method.substring(method.indexOf(' ') + 1, method.indexOf('('));
      Check.holds("no private method is named " + name, !privateNames.contains(name));
    }
    Constructor<?>[] constructors = face.getDeclaredConstructors();
    Check.same("constructors", constructors.length, 1);
    Check.holds("the constructor is public", Modifier.isPublic(constructors[0].getModifiers()));
    Check.same("its parameters", constructors[0].getParameterCount(), 0);
    for (Field field : face.getDeclaredFields()) {
      boolean isConstant = field.getName().equals("NONE");
      Check.holds(field + " is private", isConstant || Modifier.isPrivate(field.getModifiers()));
    }
    staticFieldsAreConstants(face);
    for (Class<?> inside : face.getDeclaredClasses()) {
      staticFieldsAreConstants(inside);
    }
    Field none = face.getField("NONE");
    Check.same("NONE is public, static and final", none.getModifiers(),
        Modifier.PUBLIC | Modifier.STATIC | Modifier.FINAL);
    Check.same("NONE", none.getInt(null), -1);
    for (Class<?> inside : face.getDeclaredClasses()) {
      Check.holds(inside + " is private or package-visible, and static",
          !Modifier.isPublic(inside.getModifiers()) && !Modifier.isProtected(inside.getModifiers())
              && Modifier.isStatic(inside.getModifiers()));
    }
    Check.end("FaceTest");
  }

  /** LANGUAGE.md, rule 5. */
  private static void staticFieldsAreConstants(Class<?> owner) {
    for (Field field : owner.getDeclaredFields()) {
      if (Modifier.isStatic(field.getModifiers())) {
        Check.holds(field + " is final", Modifier.isFinal(field.getModifiers()));
        Check.holds(field + " is of a type that a constant may have", CONSTANTS.contains(field.getType()));
      }
    }
  }

  private static String told(Method method) {
    StringBuilder text = new StringBuilder(method.getReturnType().getName());
    text.append(' ').append(method.getName()).append('(');
    Class<?>[] parameters = method.getParameterTypes();
    for (int i = 0; i < parameters.length; i++) {
      text.append(i == 0 ? "" : ", ").append(parameters[i].getName());
    }
    text.append(')');
    for (Class<?> exception : method.getExceptionTypes()) {
      text.append(' ').append(exception.getSimpleName());
    }
    return text.toString();
  }
}
