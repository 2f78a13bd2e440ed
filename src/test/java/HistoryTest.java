import java.util.ArrayList;
import java.util.List;

/** An engine that had other diagrams and words before answers as a new one does: rows that are used again keep nothing of them. */
public final class HistoryTest {
  private static final String[] DIAGRAMS = {"code", "code o 2", "code +[1, 1, 2, 2]", "code -[9, 7, 7, 9] o 20", "code +[1, 3, 4, 2] -[4, 3, 1, 2]",
    "code +[1, 3, 4, 2] +[3, 5, 6, 4] +[5, 1, 2, 6]", "code +[4, 1, 5, 2] +[5, 6, 3, 3] +[1, 4, 2, 6]", "code +[1, 4, 5, 2] +[5, 6, 3, 3] +[4, 1, 2, 6] o 1",
    "code +[2, 2, 1, 1] +[4, 4, 3, 3]", loops(20), "braid 3 1 2 1 2 1 2 1 2 1 2", "braid 5 1 2 -3 4 -1 2 3 -4 1 2 3 4 -3 -2 -1 4 3 2 1 1", "braid 2 -1 -1 -1 -1 -1"};
  private static final String[] AHEAD = {"", "mirror\n", "number\nmirror\n", "simplify\n", "smooth 0\nsimplify\n"};

  public static void main(String[] args) {
    for (String small : DIAGRAMS) {
      List<String> lines = lines(small);
      for (String line : lines) {
        String want = behind("", small, line);
        if (isBeyond(small, line)) Checks.due(small + ", " + line, want.startsWith("# ok\n# no\n"), true);
        for (String large : DIAGRAMS) for (String ahead : AHEAD) once(large, ahead, small, line, want);
      }
    }
    wordsBefore();
    Checks.end();
  }

  private static String loops(int n) {
    StringBuilder s = new StringBuilder("code");
    for (int a = 1; a < 2 * n; a += 2) s.append(" +[" + (a + 1) + ", " + (a + 1) + ", " + a + ", " + a + "]");
    return s.toString();
  }

  /** The other diagram was there once, and so often that each row inside has had it. */
  private static void once(String large, String ahead, String small, String line, String want) {
    String twice = large + "\n" + ahead + large + "\n" + ahead;
    Checks.due(small + ", " + line + ", behind " + large + " " + ahead, behind(large + "\n" + ahead, small, line), want);
    Checks.due(small + ", " + line + ", twice behind " + large + " " + ahead, behind(twice, small + "\n" + small, line), "# ok\n" + want);
  }

  /** What the diagram, a line and a look at what comes of it print, behind other lines. */
  private static String behind(String history, String small, String line) {
    LinkEngine x = new LinkEngine();
    Checks.answer(x, history);
    return Checks.answer(x, small + "\n" + line + "\nshow\nfaces\ncount\n");
  }

  private static int[] counts(String diagram) {
    String[] numbers = Checks.fresh(diagram + "\ncount\n").substring("# ok\n# ".length()).trim().split(" ");
    int[] n = new int[numbers.length];
    for (int i = 0; i < n.length; i++) n[i] = Integer.parseInt(numbers[i]);
    return n;
  }

  /** Moves at what is there last, and at what is just not there. */
  private static List<String> lines(String diagram) {
    int[] n = counts(diagram);
    List<String> all = new ArrayList<>(List.of("simplify", "mirror", "number", "jones", "alexander", "twist 1 - under", "twist 0 + over", "push 1 over -2", "push 1 over 7"));
    for (int face = Math.max(0, n[4] - 1); face <= n[4] + 1; face++) {
      all.add("undo " + face);
      all.add("slide " + face);
    }
    for (int c = Math.max(0, n[0] - 1); c <= n[0] + 1; c++) {
      all.add("change " + c);
      all.add("smooth " + c);
    }
    for (int c = Math.max(0, n[2] - 1); c <= n[2] + 1; c++) all.add("reverse " + c);
    return all;
  }

  private static boolean isBeyond(String diagram, String line) {
    int[] n = counts(diagram);
    String[] parts = line.split(" ");
    switch (parts[0]) {
      case "undo", "slide": return Integer.parseInt(parts[1]) >= n[4];
      case "change", "smooth": return Integer.parseInt(parts[1]) >= n[0];
      case "reverse": return Integer.parseInt(parts[1]) >= n[2];
      default: return false;
    }
  }

  /** A word's normal form is its own, whatever words, or lines that were no words, went ahead. */
  private static void wordsBefore() {
    String[] words = {"braid 1", "braid 2 1 1 1", "braid 3 1 -2 1 -2 1 -2", "braid 8 1 2 3 4 5 6 7 -1 -2 -3 -4 -5 -6 -7", "braid 4 1 3 1 3 2", "braid 8"};
    String[] others = {"", "braid 8 1 8", "braid 3 2 2 2 2 2 2 2 2 2 2 2 2 2 2 2 2 2 2 2 2 2", "braid 0", "code +[1, 2, 3, 4]", "braid 5 4 3 2 1 4 3 2 4 3 4 1 1\n"};
    for (String one : words)
      for (String other : words)
        for (String ahead : others) {
          LinkEngine x = new LinkEngine();
          Checks.answer(x, ahead + "\n" + other + "\n" + one + "\n" + other + "\n" + one + "\nbraid 9 1\nbraid 8 1 2 3 4 5 6 7 8\n");
          Checks.due(one + ", the latest, behind " + other + " and " + ahead, form(x, false), formOf(one));
          Checks.due(other + ", before it, behind " + one + " and " + ahead, form(x, true), formOf(other));
          Checks.due(one + " and " + other, x.same(), one.equals(other));
        }
  }

  private static String formOf(String word) {
    LinkEngine x = new LinkEngine();
    Checks.answer(x, word);
    return form(x, false);
  }

  private static String form(LinkEngine x, boolean before) {
    StringBuilder s = new StringBuilder().append(x.form(before, 0, 0)).append(" of ").append(x.length(before));
    for (int j = 1; j <= 20; j++) for (int p = 0; p <= 9; p++) s.append(' ').append(x.form(before, j, p));
    return s.toString();
  }
}
