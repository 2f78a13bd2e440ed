import java.io.IOException;
import java.nio.file.Files;
import java.nio.file.Path;
import java.util.ArrayList;
import java.util.List;
import java.util.TreeSet;
import java.util.regex.Matcher;
import java.util.regex.Pattern;
import java.util.stream.Stream;

/** What README.md says holds: its calls answer what stands behind them, its commands run, and it names every test. */
public final class ReadmeTest {
  private static final Pattern TEXT = Pattern.compile("\"(?:[^\"\\\\]|\\\\.)*\"");
  private static final Pattern ANSWERED = Pattern.compile("(\\w[^;]*\\(.*\\)); +// (" + TEXT + "|-?\\w+)(.*)");
  private static final Pattern CALL = Pattern.compile("\\w+\\.(feed|read|fault|run|state|crossing|printed|wipe|same|form|length)\\(");
  private static final String INSIDE_CI = "LINKENGINE_CI";

  public static void main(String[] args) throws Exception {
    String readme = Files.readString(Path.of("README.md"));
    Path room = Files.createTempDirectory("readme");
    calls(blocks(readme, "java"), room);
    commands(blocks(readme, "sh"));
    names(readme);
    ciFailsIfOneFails(room);
    clear(room);
    Checks.end();
  }

  private static List<String> blocks(String readme, String kind) {
    List<String> all = new ArrayList<>();
    Matcher m = Pattern.compile("(?ms)^```" + kind + "\n(.*?)^```$").matcher(readme);
    while (m.find()) all.add(m.group(1));
    return all;
  }

  // ---------------------------------------------------------------- calls

  /** The blocks become one program, as a reader would put them together, that prints each answer that is not as it is said. */
  private static void calls(List<String> blocks, Path room) throws Exception {
    StringBuilder members = new StringBuilder();
    StringBuilder lines = new StringBuilder();
    TreeSet<String> shown = new TreeSet<>();
    for (String block : blocks) {
      if (block.startsWith("static ")) members.append(block);
      else for (String line : block.split("\n")) lines.append(checked(line, shown)).append('\n');
    }
    Checks.due("calls that are shown", shown.toString(), "[crossing, fault, feed, form, length, printed, read, run, same, state, wipe]");
    String program = "public final class Shown {\n" + members
      + "static int wrong;\n"
      + "static void due(String call, Object got, Object want) { if (!got.equals(want)) { wrong++; System.out.println(\"README.md: \" + call + \" answered \" + got); } }\n"
      + "static String printed(LinkEngine x) { StringBuilder s = new StringBuilder(); for (int i = 0; x.printed(i) >= 0; i++) s.append((char) x.printed(i)); return s.toString(); }\n"
      + "public static void main(String[] args) {\n" + lines + "System.exit(wrong);\n}\n}\n";
    Path file = room.resolve("Shown.java");
    Files.writeString(file, program);
    Checks.due("wrong calls", run("java", "-cp", System.getProperty("java.class.path"), file.toString()), 0);
  }

  private static String checked(String line, TreeSet<String> shown) {
    Matcher call = CALL.matcher(line);
    if (call.find()) shown.add(call.group(1));
    Matcher m = ANSWERED.matcher(line);
    if (!m.matches()) {
      Checks.due("a line that makes an engine, or says what it answers: " + line, line.matches("LinkEngine \\w+ = new LinkEngine\\(\\);"), true);
      return line;
    }
    String made = "due(" + quoted(m.group(1)) + ", " + m.group(1) + ", " + m.group(2) + ");";
    Matcher text = TEXT.matcher(m.group(3));
    if (m.group(1).contains(".feed(") && text.find()) fed(m.group(1), text.group());
    else if (m.group(1).endsWith(".state(6)") && text.find()) made += " due(\"printed\", printed(" + m.group(1).split("\\.")[0] + "), " + text.group() + ");";
    return made;
  }

  /** The five numbers are the bytes of the text that is told with them. */
  private static void fed(String call, String text) {
    StringBuilder s = new StringBuilder();
    Matcher m = Pattern.compile("0x([0-9a-f]{2})([0-9a-f]{2})([0-9a-f]{2})([0-9a-f]{2})").matcher(call);
    while (m.find()) for (int i = 1; i <= 4; i++) s.append((char) Integer.parseInt(m.group(i), 16));
    Checks.due("bytes of " + call, quoted(s.toString()), text);
  }

  private static String quoted(String s) { return "\"" + s.replace("\\", "\\\\").replace("\"", "\\\"").replace("\n", "\\n") + "\""; }

  // ---------------------------------------------------------------- commands

  /** Each block is run as it stands, up to the first command that fails; .ci/run not inside itself. */
  private static void commands(List<String> blocks) throws Exception {
    Checks.due("a command that runs all tests", blocks.contains(".ci/run\n"), true);
    for (String block : blocks) {
      boolean isCi = block.equals(".ci/run\n");
      if (isCi) Checks.due("executable", Files.isExecutable(Path.of(".ci/run")), true);
      if (!isCi || System.getenv(INSIDE_CI) == null) Checks.due("exit code of\n" + block, run("sh", "-e", "-c", block), 0);
    }
  }

  /** The exit code; what is printed is shown only when it is not 0. */
  private static int run(String... command) throws Exception {
    Process p = new ProcessBuilder(command).redirectErrorStream(true).start();
    String printed = new String(p.getInputStream().readAllBytes());
    int code = p.waitFor();
    if (code != 0) System.out.print(printed);
    return code;
  }

  /** "every `src/test/java/*Test.java`" is told, and no other one. */
  private static void names(String readme) throws IOException {
    TreeSet<String> there = new TreeSet<>();
    try (Stream<Path> files = Files.list(Path.of("src/test/java"))) {
      files.map(f -> f.getFileName().toString()).filter(n -> n.endsWith("Test.java")).forEach(n -> there.add(n.substring(0, n.length() - 5)));
    }
    TreeSet<String> told = new TreeSet<>();
    Matcher m = Pattern.compile("\\b[A-Z]\\w*Test\\b").matcher(readme);
    while (m.find()) told.add(m.group());
    Checks.due("tests that are told", told, there);
  }

  // ---------------------------------------------------------------- CI itself

  private static final String GOOD = "public final class NAME { public static void main(String[] a) { new LinkEngine(); } }";
  private static final String FAILS = "public final class NAME { public static void main(String[] a) { System.exit(1); } }";
  private static final String BROKEN = "public final class NAME { int }";

  /** "runs every `src/test/java/*Test.java` and every test under `../shared/tests`, and fails if one fails" */
  private static void ciFailsIfOneFails(Path room) throws Exception {
    String engine = "public final class LinkEngine { }";
    String[][] rows = {{"all pass", engine, GOOD, GOOD}, {"a test of the project fails", engine, FAILS, GOOD}, {"a shared test fails", engine, GOOD, FAILS},
      {"a test does not compile", engine, BROKEN, GOOD}, {"a shared test does not compile", engine, GOOD, BROKEN}, {"the program does not compile", BROKEN, GOOD, GOOD},
      {"no test of the project", engine, null, GOOD}, {"no shared test", engine, GOOD, null}};
    List<Process> running = new ArrayList<>();
    for (String[] row : rows) running.add(ci(room, row[1], row[2], row[3]));
    for (int i = 0; i < rows.length; i++) Checks.due(".ci/run, " + rows[i][0], running.get(i).waitFor() == 0, i == 0);
  }

  /** A small project of its own, with one test between two good ones on either side. */
  private static Process ci(Path room, String engine, String test, String shared) throws Exception {
    Path root = Files.createTempDirectory(room, "ci");
    Path main = root.resolve("main");
    put(main.resolve("src/main/java/LinkEngine.java"), engine.replace("NAME", "LinkEngine"));
    around(main.resolve("src/test/java"), "Test", test);
    around(root.resolve("shared/tests"), "Runs", shared);
    put(main.resolve(".ci/run"), Files.readString(Path.of(".ci/run")));
    ProcessBuilder b = new ProcessBuilder("sh", ".ci/run").directory(main.toFile());
    return b.redirectOutput(ProcessBuilder.Redirect.DISCARD).redirectError(ProcessBuilder.Redirect.DISCARD).start();
  }

  private static void around(Path where, String ending, String middle) throws IOException {
    Files.createDirectories(where);
    if (middle == null) return;
    String[] tests = {GOOD, middle, GOOD};
    for (int i = 0; i < tests.length; i++) put(where.resolve("ABC".charAt(i) + ending + ".java"), tests[i].replace("NAME", "ABC".charAt(i) + ending));
  }

  private static void put(Path file, String text) throws IOException {
    Files.createDirectories(file.getParent());
    Files.writeString(file, text);
  }

  private static void clear(Path room) throws IOException {
    List<Path> all;
    try (Stream<Path> files = Files.walk(room)) { all = files.sorted(java.util.Comparator.reverseOrder()).toList(); }
    for (Path file : all) Files.delete(file);
  }
}
