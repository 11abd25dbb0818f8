import java.io.IOException;
import java.lang.reflect.Method;
import java.lang.reflect.Modifier;
import java.nio.file.Files;
import java.nio.file.Path;
import java.util.List;
import java.util.Set;
import java.util.TreeSet;
import java.util.regex.Matcher;
import java.util.regex.Pattern;
import java.util.stream.Stream;

/** README.md: its calls are made and must have the answers that stand behind them. */
public final class ReadmeTest {
  private static final Check CHECK = new Check();
  private static final Pattern NEW = Pattern.compile("KeptPages x = new KeptPages\\((\\d+)\\);");
  private static final Pattern CALL = Pattern.compile("x\\.(\\w+)\\((.*)\\);(?: *// ([^:]+)(?::.*)?)?");
  private static final Pattern CALL_ROW = Pattern.compile("\\| `(?:new )?(\\w+)\\((.*)\\)` \\|.*");
  private static final Pattern TEST_ROW = Pattern.compile("\\| (\\w+Test) \\|.*");
  private static final Pattern FAULT_ROW = Pattern.compile("\\| (-\\d+) \\| (-\\d+) \\|.*");

  private static final Set<String> called = new TreeSet<>();
  private static final Set<String> answered = new TreeSet<>();

  public static void main(String[] args) throws IOException, ReflectiveOperationException {
    List<String> lines = Files.readAllLines(Path.of("README.md"));
    examples(lines);
    callsAreNamed(lines);
    faultsAreShown(lines);
    testsAreNamed(lines);
    CHECK.end();
  }

  private static void examples(List<String> lines) throws ReflectiveOperationException {
    KeptPages x = null;
    boolean java = false;
    for (String line : lines) {
      if (line.startsWith("```")) {
        java = line.equals("```java");
      } else if (java) {
        Matcher made = NEW.matcher(line);
        if (made.matches()) {
          x = new KeptPages(Integer.parseInt(made.group(1)));
        } else {
          call(x, line);
        }
      }
    }
  }

  private static void call(KeptPages x, String line) throws ReflectiveOperationException {
    Matcher m = CALL.matcher(line);
    boolean known = x != null && m.matches();
    CHECK.due("'" + line + "' is a call", known, true);
    if (!known) {
      return;
    }
    Method method = method(m.group(1));
    String[] words = m.group(2).isEmpty() ? new String[0] : m.group(2).split(", ");
    Object[] values = new Object[words.length];
    for (int i = 0; i < words.length; i++) {
      boolean truth = method.getParameterTypes()[i] == boolean.class;
      values[i] = truth ? (Object) words[i].equals("true") : (Object) number(words[i]);
    }
    String got = String.valueOf(method.invoke(x, values));
    String due = String.valueOf(m.group(3));
    CHECK.due("'" + line + "' answered " + got + ": that is as written", got.equals(due), true);
    called.add(m.group(1));
    answered.add(got);
  }

  private static Method method(String name) throws NoSuchMethodException {
    for (Method m : KeptPages.class.getDeclaredMethods()) {
      if (m.getName().equals(name) && Modifier.isPublic(m.getModifiers())) {
        return m;
      }
    }
    throw new NoSuchMethodException(name);
  }

  private static int number(String word) {
    return word.startsWith("0x") ? Integer.parseUnsignedInt(word.substring(2), 16) : Integer.parseInt(word);
  }

  private static void callsAreNamed(List<String> lines) {
    Set<String> face = new TreeSet<>(Set.of("KeptPages/1"));
    for (Method m : KeptPages.class.getDeclaredMethods()) {
      if (Modifier.isPublic(m.getModifiers())) {
        face.add(m.getName() + "/" + m.getParameterCount());
        CHECK.due("an example calls " + m.getName(), called.contains(m.getName()), true);
      }
    }
    Set<String> named = new TreeSet<>();
    for (String line : lines) {
      Matcher m = CALL_ROW.matcher(line);
      if (m.matches()) {
        named.add(m.group(1) + "/" + (m.group(2).isEmpty() ? 0 : m.group(2).split(", ").length));
      }
    }
    CHECK.due("the calls named, " + named + ", are those of the face, " + face, named.equals(face), true);
  }

  private static void faultsAreShown(List<String> lines) {
    int rows = 0;
    for (String line : lines) {
      Matcher m = FAULT_ROW.matcher(line);
      if (m.matches()) {
        rows++;
        CHECK.due("an example answers " + m.group(1), answered.contains(m.group(1)), true);
        CHECK.due("an example answers " + m.group(2), answered.contains(m.group(2)), true);
      }
    }
    CHECK.due("rows of faults", rows, 7);
  }

  private static void testsAreNamed(List<String> lines) throws IOException {
    Set<String> there = new TreeSet<>();
    try (Stream<Path> files = Files.list(Path.of("src/test/java"))) {
      files.map(file -> file.getFileName().toString())
          .filter(name -> name.endsWith("Test.java"))
          .forEach(name -> there.add(name.replace(".java", "")));
    }
    Set<String> named = new TreeSet<>();
    for (String line : lines) {
      Matcher m = TEST_ROW.matcher(line);
      if (m.matches()) {
        named.add(m.group(1));
      }
    }
    CHECK.due("the tests named, " + named + ", are those there, " + there, named.equals(there), true);
  }
}
