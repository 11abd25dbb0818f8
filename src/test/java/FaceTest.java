import java.lang.reflect.Constructor;
import java.lang.reflect.Field;
import java.lang.reflect.Method;
import java.lang.reflect.Modifier;
import java.util.Set;
import java.util.TreeSet;

/** The public face of the document, and that nothing else can be seen (LANGUAGE.md, rules 1 and 5). */
public final class FaceTest {
  private static final Check CHECK = new Check();

  private static final Set<String> FACE = Set.of(
      "boolean put(int,int)",
      "boolean entry(int,int)",
      "long entryOf(int)",
      "boolean region(int,int,int)",
      "void map(boolean)",
      "boolean drop(int)",
      "long read(int,int,int)",
      "int write(int,int,int,int)",
      "int where(int,int,boolean)",
      "int may(int,int,boolean)",
      "long kept(int,int)",
      "int failed()");

  public static void main(String[] args) {
    Class<KeptPages> c = KeptPages.class;
    CHECK.due("the class is public and final", c.getModifiers(), Modifier.PUBLIC | Modifier.FINAL);
    constructors(c);
    methods(c);
    fields(c);
    CHECK.end();
  }

  private static void constructors(Class<KeptPages> c) {
    Constructor<?>[] all = c.getDeclaredConstructors();
    CHECK.due("constructors", all.length, 1);
    CHECK.due("public KeptPages(int)", all[0].toString().equals("public KeptPages(int)"), true);
  }

  private static void methods(Class<KeptPages> c) {
    Set<String> seen = new TreeSet<>();
    Set<String> names = new TreeSet<>();
    for (Method m : c.getDeclaredMethods()) {
      if (Modifier.isPublic(m.getModifiers())) {
        CHECK.due(m + " is public alone", m.getModifiers(), Modifier.PUBLIC);
        seen.add(m.toString().replace("public ", "").replace("KeptPages.", ""));
        names.add(m.getName());
      }
    }
    CHECK.due("the public methods " + seen, seen.equals(FACE), true);
    for (Method m : c.getDeclaredMethods()) {
      boolean hidden = Modifier.isPrivate(m.getModifiers());
      CHECK.due(m + " is public or private", hidden || Modifier.isPublic(m.getModifiers()), true);
      CHECK.due(m + " has a name of its own", hidden && names.contains(m.getName()), false);
    }
  }

  private static void fields(Class<KeptPages> c) {
    for (Field f : c.getDeclaredFields()) {
      CHECK.due(f + " is private", Modifier.isPrivate(f.getModifiers()), true);
      boolean changes = Modifier.isStatic(f.getModifiers()) && !Modifier.isFinal(f.getModifiers());
      CHECK.due(f + " is no static that changes", changes, false);
    }
  }
}
