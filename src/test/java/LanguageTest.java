import java.io.IOException;
import java.lang.reflect.Field;
import java.lang.reflect.Method;
import java.lang.reflect.Modifier;
import java.nio.file.Files;
import java.nio.file.Path;
import java.util.ArrayList;
import java.util.Arrays;
import java.util.HashSet;
import java.util.List;
import java.util.Set;
import java.util.TreeSet;
import java.util.regex.Matcher;
import java.util.regex.Pattern;

/** The document's face, and the rules of LANGUAGE.md that a program can look at. Runs at the project's root. */
public final class LanguageTest {
  private static final String FACE =
      "int net(int) int line(int,int,int) int told(int,int) int mark(int,int) int down(int,boolean) int rate(int,int) "
      + "int reading(int,int,int) int load(int,int,int) int mean(int) int route(int,int,int) int carried(int,int) "
      + "int meter(int,int,int) int fits(int) int fit(int,int) int many(int) int bound(int,int,boolean,int) "
      + "int sure(int) int tries() int guess(int,int) int base(int,int,int) int changed(int) int worst(int,int,int) "
      + "int meters(int) int sheet(int,int) int lay(int,int,int) int play(int,int) int tear(int) "
      + "int copy(int,int,int,int,int) long asked() int count(int) int finding() int findings(int) long digest()";
  private static final String CONSTANTS = "BAD FULL FINDING STATE SPENT NONE";
  private static int wrong = 0;

  private static void due(String what, Object got, Object want) {
    if (got.equals(want)) return;
    wrong++;
    System.out.println(what + ": " + got + ", due is " + want);
  }

  private static String written(Method method) {
    StringBuilder text = new StringBuilder(method.getReturnType() + " " + method.getName() + "(");
    for (Class<?> type : method.getParameterTypes()) text.append(type).append(',');
    if (method.getParameterCount() > 0) text.setLength(text.length() - 1);
    return text.append(')').toString();
  }

  private static void face() {
    Class<?> face = LoadsUnseen.class;
    due("the class is public and final", Modifier.toString(face.getModifiers()), "public final");
    due("constructors", face.getDeclaredConstructors().length, 1);
    due("constructor", face.getDeclaredConstructors()[0].toString(), "public LoadsUnseen()");
    Set<String> open = new TreeSet<>();
    Set<String> names = new HashSet<>();
    for (Method method : face.getDeclaredMethods()) {
      if (Modifier.isPrivate(method.getModifiers())) continue;
      due(method + " is public alone", Modifier.toString(method.getModifiers()), "public");
      open.add(written(method));
      names.add(method.getName());
    }
    due("methods", open, new TreeSet<>(Arrays.asList(FACE.split(" (?=int |long )"))));
    privateNames(face, names);
    Set<String> constants = new TreeSet<>();
    for (Field field : face.getDeclaredFields()) {
      if (!Modifier.isPrivate(field.getModifiers())) constants.add(field.getName());
      if (Modifier.isStatic(field.getModifiers())) due(field + " is final", Modifier.isFinal(field.getModifiers()), true);
    }
    due("constants", constants, new TreeSet<>(Arrays.asList(CONSTANTS.split(" "))));
  }

  private static void privateNames(Class<?> face, Set<String> names) {
    List<Class<?>> classes = new ArrayList<>(Arrays.asList(face.getDeclaredClasses()));
    due("some twelve classes at most", classes.size() < 13, true);
    for (Class<?> inside : classes) {
      due(inside + " is static", Modifier.isStatic(inside.getModifiers()), true);
      due(inside + " is not open", Modifier.isPublic(inside.getModifiers()), false);
      for (Method method : inside.getDeclaredMethods()) due(method + " bears a public name", names.contains(method.getName()), false);
    }
    for (Method method : face.getDeclaredMethods()) {
      if (Modifier.isPrivate(method.getModifiers())) due(method + " bears a public name", names.contains(method.getName()), false);
      due(method + " has seven parameters at most", method.getParameterCount() <= 7, true);
    }
  }

  private static void words(String source) {
    String code = source.replaceAll("(?s)/\\*.*?\\*/", "").replaceAll("//[^\n]*", "");
    String[] ruledOut = {
      "\\bthrow\\b", "\\bthrows\\b", "\\btry\\b", "\\bcatch\\b", "\\bsynchronized\\b", "\\bassert\\b", "->", "::",
      "Exact\\b", "\\bprotected\\b", "\\bpackage\\b", "\\bSystem\\.(?!arraycopy\\b)", "\\bRandom\\b", "\\bThread\\b",
      "\\bstatic\\s*\\{", "\\bhashCode\\b", "\\btoString\\b", "\\bequals\\b", "\\bvar\\b", "\\bthis\\s*[,)]"
    };
    for (String word : ruledOut) {
      Matcher at = Pattern.compile(word).matcher(code);
      due("ruled out: " + word, at.find(), false);
    }
    Matcher imports = Pattern.compile("import ([^;]*);").matcher(code);
    while (imports.find()) due("import", imports.group(1), "java.util.Arrays");
    for (char c : source.toCharArray()) if (c > 126) due("a character", c, "none beyond 126");
  }

  private static void shortMethods(String source) {
    int start = -1;
    int number = 0;
    for (String line : source.split("\n")) {
      number++;
      if (line.matches(" {4}( {4})?[a-z].*\\) \\{") && !line.matches(" {8}(if|for|while|switch).*")) start = number;
      if (line.matches(" {4}( {4})?\\}") && start > 0) {
        due("lines of the method at " + start + " are few", number - start < 60, true);
        start = -1;
      }
    }
  }

  public static void main(String[] args) throws IOException {
    String source = Files.readString(Path.of("src/main/java/LoadsUnseen.java"));
    face();
    words(source);
    shortMethods(source);
    System.out.println(wrong == 0 ? "all is as due" : wrong + " things are not as due");
    if (wrong != 0) System.exit(1);
  }
}
