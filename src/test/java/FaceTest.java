import java.lang.reflect.Constructor;
import java.lang.reflect.Field;
import java.lang.reflect.Method;
import java.lang.reflect.Modifier;
import java.nio.file.Files;
import java.nio.file.Path;
import java.util.Set;
import java.util.TreeSet;
import java.util.regex.Matcher;
import java.util.regex.Pattern;

/** The public face is the document's and no more, and the source keeps to rules of LANGUAGE.md that a test can see. */
public final class FaceTest {
  private static final Set<String> FACE = Set.of("int feed(int int int int int)", "int read(int)", "int fault(int)", "int run(int)", "int state(int)",
    "int crossing(int int)", "int printed(int)", "int wipe(boolean)", "boolean same()", "int form(boolean int int)", "int length(boolean)");

  public static void main(String[] args) throws Exception {
    face();
    inside(LinkEngine.class);
    source();
    Checks.end();
  }

  private static void face() {
    Class<?> c = LinkEngine.class;
    Checks.due("public and final", Modifier.isPublic(c.getModifiers()) && Modifier.isFinal(c.getModifiers()), true);
    Set<String> seen = new TreeSet<>();
    for (Method m : c.getDeclaredMethods()) {
      if (m.isSynthetic()) continue;
      if (Modifier.isPublic(m.getModifiers())) {
        StringBuilder s = new StringBuilder(m.getReturnType() + " " + m.getName() + "(");
        for (Class<?> p : m.getParameterTypes()) s.append(s.charAt(s.length() - 1) == '(' ? "" : " ").append(p);
        seen.add(s.append(')').toString());
      } else {
        Checks.due(m.getName() + " is private", Modifier.isPrivate(m.getModifiers()), true);
        hasItsOwnName(m);
      }
    }
    Checks.due("methods", seen, new TreeSet<>(FACE));
    for (Field f : c.getDeclaredFields()) Checks.due(f.getName() + " is private", Modifier.isPrivate(f.getModifiers()), true);
    Constructor<?>[] all = c.getDeclaredConstructors();
    Checks.due("one constructor", all.length == 1 && all[0].getParameterCount() == 0 && Modifier.isPublic(all[0].getModifiers()), true);
  }

  private static void hasItsOwnName(Method m) {
    Checks.due(m + " has a name of its own", FACE.stream().noneMatch(s -> s.contains(" " + m.getName() + "(")), true);
  }

  private static void inside(Class<?> outer) {
    Checks.due("classes, with the outer one", outer.getDeclaredClasses().length + 1 <= 12, true);
    Checks.due("fields of the engine", java.util.Arrays.stream(outer.getDeclaredFields()).filter(f -> !Modifier.isStatic(f.getModifiers())).count() <= 20, true);
    for (Field f : outer.getDeclaredFields())
      if (Modifier.isStatic(f.getModifiers())) Checks.due(f.getName() + " is a constant", Modifier.isFinal(f.getModifiers()) && f.getType() == int.class, true);
    for (Class<?> c : outer.getDeclaredClasses()) {
      Checks.due(c.getName() + " is static", Modifier.isStatic(c.getModifiers()) && !Modifier.isPublic(c.getModifiers()), true);
      int fields = 0;
      for (Field f : c.getDeclaredFields()) {
        if (Modifier.isStatic(f.getModifiers())) Checks.due(f.getName() + " is final", Modifier.isFinal(f.getModifiers()), true);
        else fields++;
      }
      Checks.due(c.getName() + " has few fields", fields <= 20, true);
      for (Method m : c.getDeclaredMethods()) {
        Checks.due(m + " has few parameters", m.getParameterCount() <= 7, true);
        hasItsOwnName(m);
      }
    }
  }

  private static void source() throws Exception {
    Path path = Path.of("src/main/java/LinkEngine.java");
    String text = Files.readString(path).replaceAll("(?s)/\\*.*?\\*/", "").replaceAll("//[^\n]*", "").replaceAll("\"[^\"]*\"", "\"\"");
    for (String word : new String[] {"throw", "throws", "try", "catch", "synchronized", "assert", "package", "protected", "volatile", "static\\s*\\{", "->", "::", "@", "hashCode", "toString"})
      Checks.due("in the source: " + word, Pattern.compile(Character.isLetter(word.charAt(0)) ? "\\b" + word : word).matcher(text).find(), false);
    library(text);
    lengths(text);
    Checks.due("imports", text.lines().filter(l -> l.startsWith("import ")).toList(), java.util.List.of("import java.util.Arrays;"));
  }

  /** Rule 4: "The library: only what stands here." */
  private static void library(String text) {
    Set<String> allowed = Set.of("Math.abs", "Math.min", "Math.max", "Integer.bitCount", "Arrays.fill", "System.arraycopy");
    Matcher m = Pattern.compile("\\b([A-Z]\\w*\\.[a-z]\\w*)\\s*\\(").matcher(text);
    while (m.find()) Checks.due(m.group(1) + " is of the library's part", allowed.contains(m.group(1)), true);
    for (String type : new String[] {"Object", "double", "float", "Map", "Set", "List", "ArrayList", "Iterator", "StringBuilder"})
      Checks.due("in the source: " + type, Pattern.compile("\\b" + type + "\\b").matcher(text).find(), false);
  }

  /** Rule 11: "Methods stay short (some sixty lines)" */
  private static void lengths(String text) {
    Matcher m = Pattern.compile("(?ms)^( +)[\\w\\[\\] ]+ (\\w+)\\([^;{}=]*\\) \\{$(.*?)^\\1\\}$").matcher(text);
    int methods = 0;
    while (m.find()) {
      methods++;
      Checks.due("lines of " + m.group(2) + ", " + m.group(3).lines().count(), m.group(3).lines().count() <= 60, true);
    }
    Checks.due("methods are found", methods > 100, true);
  }
}
