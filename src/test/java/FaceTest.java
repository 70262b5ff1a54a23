import java.lang.reflect.Constructor;
import java.lang.reflect.Field;
import java.lang.reflect.Method;
import java.lang.reflect.Modifier;
import java.util.Arrays;
import java.util.Set;
import java.util.TreeSet;

/** The face is the document's, and no more. */
public final class FaceTest {
  private static final String[] FACE = {
      "int feed(int, int, int, int, int)", "int mine(int) IllegalArgumentException", "int fault()",
      "int count(int) NoSuchElementException", "int rope(int, int) NoSuchElementException",
      "boolean slip(int, int) NoSuchElementException", "int on(int) IllegalArgumentException",
      "int undo(int) IllegalArgumentException", "int safe(int) NoSuchElementException",
      "int most(int) IllegalArgumentException", "int plan(int) NoSuchElementException",
      "int time(int, int) NoSuchElementException", "int fitting()", "int breaks(int) NoSuchElementException",
      "int worth(int, int, int) IllegalArgumentException NoSuchElementException", "void image()", "boolean restore()"};

  public static void main(String[] args) {
    Checks c = new Checks();
    c.due("NONE", SandCars.NONE, -1);
    c.due("public and final", SandCars.class.getModifiers(), Modifier.PUBLIC | Modifier.FINAL);
    c.due("one constructor", SandCars.class.getDeclaredConstructors().length, 1);
    for (Constructor<?> k : SandCars.class.getDeclaredConstructors()) {
      c.due("a public constructor", k.getModifiers(), Modifier.PUBLIC);
      c.due("without arguments", k.getParameterCount(), 0);
    }
    Set<String> open = new TreeSet<>();
    Set<String> names = new TreeSet<>();
    for (Method m : SandCars.class.getDeclaredMethods()) {
      if (Modifier.isPrivate(m.getModifiers())) continue;
      open.add(text(m));
      names.add(m.getName());
      c.due(m + " is public alone", m.getModifiers(), Modifier.PUBLIC);
    }
    Set<String> due = new TreeSet<>(Arrays.asList(FACE));
    if (!open.equals(due)) System.out.println(open + "\n" + due);
    c.due("the methods", open.equals(due), true);
    for (Field f : SandCars.class.getDeclaredFields())
      if (!Modifier.isPrivate(f.getModifiers())) c.due("open field " + f.getName(), f.getName().equals("NONE"), true);
    names(c, SandCars.class, names);
    for (Class<?> inner : SandCars.class.getDeclaredClasses()) {
      c.due(inner + " is static", Modifier.isStatic(inner.getModifiers()), true);
      c.due(inner + " is not public", Modifier.isPublic(inner.getModifiers()), false);
      c.due(inner + " has few fields", fields(inner) <= 20, true);
      names(c, inner, names);
    }
    c.due("few classes", SandCars.class.getDeclaredClasses().length < 12, true);
    c.due("few fields", fields(SandCars.class) <= 20, true);
    c.end();
  }

  private static int fields(Class<?> of) {
    int many = 0;
    for (Field f : of.getDeclaredFields()) if (!Modifier.isStatic(f.getModifiers())) many++;
    return many;
  }

  private static void names(Checks c, Class<?> in, Set<String> open) {
    for (Method m : in.getDeclaredMethods()) {
      c.due("seven parameters: " + m, m.getParameterCount() <= 7, true);
      if (Modifier.isPrivate(m.getModifiers())) c.due("a private method with an open name: " + m, open.contains(m.getName()), false);
    }
    for (Field f : in.getDeclaredFields())
      if (Modifier.isStatic(f.getModifiers())) c.due("static and final: " + f, Modifier.isFinal(f.getModifiers()), true);
  }

  private static String text(Method m) {
    StringBuilder s = new StringBuilder(m.getReturnType() + " " + m.getName() + "(");
    for (Class<?> p : m.getParameterTypes()) s.append(s.charAt(s.length() - 1) == '(' ? "" : ", ").append(p);
    s.append(")");
    Set<String> thrown = new TreeSet<>();
    for (Class<?> e : m.getExceptionTypes()) thrown.add(e.getSimpleName());
    for (String e : thrown) s.append(" ").append(e);
    return s.toString();
  }
}
