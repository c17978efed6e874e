import java.io.IOException;
import java.lang.reflect.Method;
import java.lang.reflect.Modifier;
import java.nio.file.Files;
import java.nio.file.Path;
import java.util.Set;
import java.util.TreeSet;
import java.util.regex.Matcher;
import java.util.regex.Pattern;

/** The calls that README.md shows answer what it says, and it names each call of the face. Runs at the project's root. */
public final class ReadmeTest {
  private static final Pattern BLOCK = Pattern.compile("(?s)```java\n(.*?)```");
  private static final Pattern CALL = Pattern.compile("x\\.(\\w+)\\((.*)\\); +// (-?\\d+)(:.*)?");
  private static int wrong = 0;
  private static int calls = 0;

  private static void fail(String what) {
    wrong++;
    System.out.println(what);
  }

  private static Method methodOf(String name) {
    for (Method method : LoadsUnseen.class.getMethods()) if (method.getName().equals(name)) return method;
    return null;
  }

  private static Object[] values(String written) {
    String[] parts = written.isEmpty() ? new String[0] : written.split(", ");
    Object[] values = new Object[parts.length];
    for (int i = 0; i < parts.length; i++) {
      boolean isWord = parts[i].equals("true") || parts[i].equals("false");
      values[i] = isWord ? (Object) parts[i].equals("true") : (Object) Integer.valueOf(parts[i]);
    }
    return values;
  }

  private static void make(LoadsUnseen x, String line) throws ReflectiveOperationException {
    Matcher call = CALL.matcher(line);
    if (!call.matches() || methodOf(call.group(1)) == null) {
      fail("no call with its answer: " + line);
      return;
    }
    calls++;
    Number got = (Number) methodOf(call.group(1)).invoke(x, values(call.group(2)));
    if (got.longValue() != Long.parseLong(call.group(3))) fail(line + " answered " + got);
  }

  private static void make(String block) throws ReflectiveOperationException {
    LoadsUnseen x = new LoadsUnseen();
    String[] lines = block.split("\n");
    if (!lines[0].equals("LoadsUnseen x = new LoadsUnseen();")) fail("a run begins otherwise: " + lines[0]);
    for (int i = 1; i < lines.length; i++) make(x, lines[i]);
  }

  public static void main(String[] args) throws IOException, ReflectiveOperationException {
    String readme = Files.readString(Path.of("README.md"));
    Matcher block = BLOCK.matcher(readme);
    while (block.find()) make(block.group(1));
    if (calls == 0) fail("README.md shows no call");
    Set<String> names = new TreeSet<>();
    for (Method method : LoadsUnseen.class.getDeclaredMethods()) {
      if (Modifier.isPublic(method.getModifiers())) names.add(method.getName());
    }
    for (String name : names) if (!readme.contains("`" + name + "`")) fail("README.md does not name " + name);
    System.out.println(wrong == 0 ? "all answers are as due" : wrong + " things are not as due");
    if (wrong != 0) System.exit(1);
  }
}
