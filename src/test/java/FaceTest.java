import java.lang.reflect.Constructor;
import java.lang.reflect.Field;
import java.lang.reflect.Method;
import java.lang.reflect.Modifier;
import java.util.Map;
import java.util.TreeMap;

/** "The public face": the class has it as the document writes it, and shows nothing else. */
public final class FaceTest {
  /** The names and how many numbers each takes; all of them answer a number. */
  private static final Map<String, Integer> FACE = Map.ofEntries(
      Map.entry("feed", 5), Map.entry("out", 1), Map.entry("tell", 2), Map.entry("roots", 1),
      Map.entry("times", 1), Map.entry("root", 2), Map.entry("signAt", 2), Map.entry("below", 2),
      Map.entry("points", 1), Map.entry("point", 3), Map.entry("signAtPoint", 2),
      Map.entry("decide", 1), Map.entry("solve", 1), Map.entry("piece", 2), Map.entry("edge", 3),
      Map.entry("factors", 1), Map.entry("factor", 1), Map.entry("power", 1), Map.entry("hold", 2),
      Map.entry("reckon", 4), Map.entry("least", 1), Map.entry("number", 2),
      Map.entry("compare", 2));

  public static void main(String[] args) {
    isPublicAndFinal();
    hasItsMethods();
    showsNothingElse();
    House.end();
  }

  private static void isPublicAndFinal() {
    int flags = RealHouse.class.getModifiers();
    House.due("public", 1, Modifier.isPublic(flags) ? 1 : 0);
    House.due("final", 1, Modifier.isFinal(flags) ? 1 : 0);
    House.due("the package", "", RealHouse.class.getPackageName());
    House.due("what it extends", "java.lang.Object", RealHouse.class.getSuperclass().getName());
    House.due("what it implements", 0, RealHouse.class.getInterfaces().length);
  }

  private static void hasItsMethods() {
    Map<String, String> want = new TreeMap<>();
    for (Map.Entry<String, Integer> entry : FACE.entrySet()) {
      want.put(entry.getKey(), "public int" + " int".repeat(entry.getValue()));
    }
    Map<String, String> got = new TreeMap<>();
    for (Method method : RealHouse.class.getDeclaredMethods()) {
      int flags = method.getModifiers();
      if (Modifier.isPrivate(flags) || method.isSynthetic()) {
        continue;
      }
      StringBuilder told = new StringBuilder(Modifier.toString(flags));
      told.append(' ').append(method.getReturnType());
      for (Class<?> type : method.getParameterTypes()) {
        told.append(' ').append(type);
      }
      got.merge(method.getName(), told.toString(), (a, b) -> a + ", " + b);
    }
    House.due("the methods", want.toString(), got.toString());
  }

  private static void showsNothingElse() {
    Constructor<?>[] constructors = RealHouse.class.getDeclaredConstructors();
    House.due("constructors", 1, constructors.length);
    House.due("the constructor", "public RealHouse()", constructors[0].toString());
    for (Field field : RealHouse.class.getDeclaredFields()) {
      int flags = field.getModifiers();
      House.due(field + " is private", 1, Modifier.isPrivate(flags) ? 1 : 0);
      House.due(field + " is final if static", 1,
          Modifier.isFinal(flags) || !Modifier.isStatic(flags) ? 1 : 0);
    }
    for (Class<?> inside : RealHouse.class.getDeclaredClasses()) {
      int flags = inside.getModifiers();
      House.due(inside + " is static", 1, Modifier.isStatic(flags) ? 1 : 0);
      House.due(inside + " is not open", 0,
          Modifier.isPublic(flags) || Modifier.isProtected(flags) ? 1 : 0);
    }
  }
}
