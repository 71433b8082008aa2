import java.lang.reflect.Constructor;
import java.lang.reflect.Field;
import java.lang.reflect.Method;
import java.lang.reflect.Modifier;
import java.util.Arrays;
import java.util.Set;
import java.util.TreeSet;

/** "The public face" of the document, and rules 1 and 5 of LANGUAGE.md on what stands beside it. */
public final class FaceTest {
  private static final Checks CHECKS = new Checks();

  private static final String[] CONSTANTS = {"NONE", "UNKNOWN", "OUTSIDE", "STATE", "FULL"};

  // Every method answers an int; a letter for each thing that it is told: i an int, l a long.
  private static final String[] METHODS = {
    "feed li", "build", "defined ii", "count ii", "name ii", "is iii", "use iiiliii", "link ii", "member ii",
    "done iii", "doneMember iii", "compile ii", "copied i", "stale ii", "changed iii", "told i", "share i"
  };

  public static void main(String[] args) {
    theClass();
    constants();
    constructors();
    methods();
    exceptions();
    classesInside();
    staticFields();
    CHECKS.end();
  }

  // "public final class LinkModels"
  private static void theClass() {
    int modifiers = LinkModels.class.getModifiers();
    CHECKS.due("public", Modifier.isPublic(modifiers) ? 1 : 0, 1);
    CHECKS.due("final", Modifier.isFinal(modifiers) ? 1 : 0, 1);
    CHECKS.due("package", LinkModels.class.getPackageName().length(), 0);
    CHECKS.due("class above is Object", LinkModels.class.getSuperclass() == Object.class ? 1 : 0, 1);
    CHECKS.due("interfaces", LinkModels.class.getInterfaces().length, 0);
  }

  // "public static final int NONE = -1, UNKNOWN = -2, OUTSIDE = -3, STATE = -4, FULL = -5"
  private static void constants() {
    Set<String> open = new TreeSet<>();
    for (Field f : LinkModels.class.getDeclaredFields()) {
      if (!Modifier.isPrivate(f.getModifiers()) && !f.isSynthetic()) {
        open.add(f.getName());
        boolean asTold = f.getType() == int.class
            && f.getModifiers() == (Modifier.PUBLIC | Modifier.STATIC | Modifier.FINAL);
        CHECKS.due("constant " + f.getName(), asTold ? 1 : 0, 1);
      }
    }
    CHECKS.due("constants " + open, open.equals(new TreeSet<>(Arrays.asList(CONSTANTS))) ? 1 : 0, 1);
    int[] values = {LinkModels.NONE, LinkModels.UNKNOWN, LinkModels.OUTSIDE, LinkModels.STATE, LinkModels.FULL};
    for (int i = 0; i < values.length; i++) {
      CHECKS.due(CONSTANTS[i], values[i], -1 - i);
    }
  }

  // "public LinkModels();"
  private static void constructors() {
    Constructor<?>[] all = LinkModels.class.getDeclaredConstructors();
    CHECKS.due("constructors", all.length, 1);
    CHECKS.due("constructor is public", Modifier.isPublic(all[0].getModifiers()) ? 1 : 0, 1);
    CHECKS.due("told to the constructor", all[0].getParameterCount(), 0);
    CHECKS.due("constructor throws", all[0].getExceptionTypes().length, 0);
  }

  private static String shown(Method m) {
    StringBuilder s = new StringBuilder(m.getName());
    for (Class<?> type : m.getParameterTypes()) {
      s.append(s.indexOf(" ") < 0 ? " " : "");
      s.append(type == int.class ? 'i' : type == long.class ? 'l' : '?');
    }
    return s.toString();
  }

  // Rule 1: "no other public, protected or package-visible member"
  private static void methods() {
    Set<String> open = new TreeSet<>();
    for (Method m : LinkModels.class.getDeclaredMethods()) {
      if (!Modifier.isPrivate(m.getModifiers()) && !m.isSynthetic()) {
        open.add(shown(m));
        CHECKS.due("int " + m.getName(), m.getReturnType() == int.class ? 1 : 0, 1);
        CHECKS.due("public " + m.getName(), m.getModifiers(), Modifier.PUBLIC);
      }
    }
    CHECKS.due("methods " + open, open.equals(new TreeSet<>(Arrays.asList(METHODS))) ? 1 : 0, 1);
  }

  // "int share(int build) throws IllegalArgumentException, ArithmeticException"; no other one throws
  private static void exceptions() {
    for (Method m : LinkModels.class.getDeclaredMethods()) {
      Class<?>[] told = m.getExceptionTypes();
      boolean two = told.length == 2
          && told[0] == IllegalArgumentException.class
          && told[1] == ArithmeticException.class;
      boolean asTold = m.getName().equals("share") ? two : told.length == 0;
      CHECKS.due("exceptions of " + m.getName(), asTold ? 1 : 0, 1);
    }
  }

  // Rule 1: the classes inside "are private or package-visible and static", and "No private method bears the
  // name of a public one"
  private static void classesInside() {
    Set<String> open = new TreeSet<>();
    for (String method : METHODS) {
      open.add(method.split(" ")[0]);
    }
    noneBears(LinkModels.class, open);
    for (Class<?> inside : LinkModels.class.getDeclaredClasses()) {
      int modifiers = inside.getModifiers();
      CHECKS.due("static " + inside, Modifier.isStatic(modifiers) ? 1 : 0, 1);
      boolean seen = Modifier.isPublic(modifiers) || Modifier.isProtected(modifiers);
      CHECKS.due("seen from outside " + inside, seen ? 1 : 0, 0);
      noneBears(inside, open);
    }
  }

  private static void noneBears(Class<?> inside, Set<String> open) {
    for (Method m : inside.getDeclaredMethods()) {
      if (!Modifier.isPublic(m.getModifiers())) {
        CHECKS.due(inside + " has " + m.getName(), open.contains(m.getName()) ? 1 : 0, 0);
      }
    }
  }

  // Rule 5: "Static fields are final"
  private static void staticFields() {
    allFinal(LinkModels.class);
    for (Class<?> inside : LinkModels.class.getDeclaredClasses()) {
      allFinal(inside);
    }
  }

  private static void allFinal(Class<?> inside) {
    for (Field f : inside.getDeclaredFields()) {
      if (Modifier.isStatic(f.getModifiers())) {
        CHECKS.due("final " + f, Modifier.isFinal(f.getModifiers()) ? 1 : 0, 1);
      }
    }
  }
}
