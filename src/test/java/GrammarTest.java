import java.util.regex.Matcher;
import java.util.regex.Pattern;

/** The lines of Part I as patterns: each token of a good line goes, or another one stands in its place or ahead of it. */
public final class GrammarTest {
  private static final String TERM = "(n|V(\\^-?n)?|nV(\\^-?n)?)";
  private static final String SUM = "(=-?" + TERM + "([+-]" + TERM + ")*)?";
  private static final String[][] KINDS = {{"code", "([+-]\\[n,n,n,n\\])*(on)?"}, {"braid", "n(-?n)*"}, {"undo", "n"}, {"slide", "n"}, {"twist", "n[+-]W"}, {"push", "-?nW-?n"},
    {"simplify", ""}, {"mirror", ""}, {"reverse", "n"}, {"change", "n"}, {"smooth", "n"}, {"number", ""}, {"show", ""}, {"count", ""}, {"faces", ""},
    {"bracket", SUM.replace('V', 'A')}, {"jones", SUM.replace('V', 'A')}, {"alexander", SUM.replace('V', 't')}};
  private static final String[] GOOD = {"code", "code o 3", "code + [ 1 , 2 , 3 , 4 ]", "code - [ 1 , 1 , 2 , 2 ] + [ 9 , 8 , 7 , 6 ] o 0", "braid 3", "braid 3 1 - 2 1 - 2", "undo 1", "slide 2",
    "twist 5 + over", "twist 0 - under", "push 1 over - 2", "push - 7 under 8", "simplify", "mirror", "reverse 1", "change 2", "smooth 3", "number", "show", "count", "faces", "bracket",
    "bracket = 7", "bracket = - A ^ - 3 + 2 A - 5", "jones", "jones = A", "jones = 2 A ^ 4 - A ^ 5 + 1", "alexander", "alexander = 1 - 3 t + t ^ 2", "alexander = - 3 t ^ - 1"};
  private static final String[] OTHERS = {"", "5", "0", "00", "05", "9999", "10000", "999999999999999999", "1000000000000000000", "-", "+", "[", "]", ",", "=", "^", "o", "over", "under", "A", "t", "AA",
    "Over", "code", "show", "!", ".", "\t", "\200", "# 5", "\n", "\nshow\n", "- 5", "+ 5", "- -", "5 5"};

  public static void main(String[] args) {
    for (String line : GOOD) {
      check(line);
      String[] tokens = line.split(" ");
      for (int at = 0; at <= tokens.length; at++)
        for (String other : OTHERS) {
          check(with(tokens, at, other, false));
          if (at < tokens.length) check(with(tokens, at, other, true));
        }
    }
    Checks.end();
  }

  private static String with(String[] tokens, int at, String other, boolean inPlace) {
    StringBuilder s = new StringBuilder();
    for (int i = 0; i <= tokens.length; i++) {
      if (i == at) s.append(other).append(' ');
      if (i < tokens.length && !(i == at && inPlace)) s.append(tokens[i]).append(' ');
    }
    return s.toString();
  }

  /** As it stands, with another line ahead of it, and without its spaces where these part no words and numbers. */
  private static void check(String text) {
    same(text);
    same("count # it\n" + text + "\n");
    same(text.replaceAll("(?<![A-Za-z0-9]) | (?![A-Za-z0-9])", ""));
  }

  private static void same(String text) {
    LinkEngine x = new LinkEngine();
    int got = Checks.read(x, text);
    int[] want = firstFault(text);
    String name = "<" + text.replace("\n", "\\n") + ">";
    Checks.due("lines of " + name, got, want[0] == 0 ? want[2] : -1);
    Checks.due("fault of " + name, x.fault(0), want[0]);
    Checks.due("place of " + name, x.fault(1), want[1]);
    Checks.due("waiting of " + name, x.state(0), Math.max(0, got));
  }

  /** The fault, its place (0 and -1 when there is none), and how many lines there are. */
  private static int[] firstFault(String text) {
    int lines = 0;
    int start = 0;
    while (start <= text.length()) {
      int end = text.indexOf('\n', start);
      if (end < 0) end = text.length();
      int[] fault = faultOfLine(text, start, end);
      if (fault[0] > 0) return fault;
      lines += fault[0] < 0 ? 0 : 1;
      start = end + 1;
    }
    return new int[] {0, -1, lines};
  }

  /** The first fault of a line; -1 when it has no tokens. */
  private static int[] faultOfLine(String text, int start, int end) {
    Matcher m = Pattern.compile("(#[ -~]*)|( +)|([A-Za-z]+)|([0-9]+)|(?s:(.))").matcher(text).region(start, end);
    Pattern kind = null;
    StringBuilder row = new StringBuilder();
    while (m.find()) {
      if (m.group(1) != null || m.group(2) != null) continue;
      String token = m.group();
      if (token.charAt(0) < 32 || token.charAt(0) > 126) return new int[] {1, m.start()};
      boolean first = kind == null;
      if (first) kind = kindOf(token);
      boolean fits = kind != null;
      if (!first) {
        boolean afterCaret = row.toString().endsWith("^") || row.toString().endsWith("^-");
        row.append(shape(token));
        Matcher whole = kind.matcher(row);
        fits = whole.matches() || whole.hitEnd();
        if (m.group(4) != null && isWrong(token, fits && row.charAt(0) == '=' && !afterCaret)) return new int[] {2, m.start()};
      } else if (m.group(4) != null && isWrong(token, false)) {
        return new int[] {2, m.start()};
      }
      if (!fits) return new int[] {first ? 3 : 4, m.start()};
    }
    if (kind == null) return new int[] {-1, -1};
    return kind.matcher(row).matches() ? new int[] {0, -1} : new int[] {4, end};
  }

  private static Pattern kindOf(String word) {
    for (String[] k : KINDS) if (k[0].equals(word)) return Pattern.compile(k[1]);
    return null;
  }

  private static boolean isWrong(String digits, boolean ofATerm) {
    if (digits.length() > 18 || digits.length() > 1 && digits.charAt(0) == '0') return true;
    return !ofATerm && Long.parseLong(digits) > 9999;
  }

  private static char shape(String token) {
    if (Character.isDigit(token.charAt(0))) return 'n';
    if (token.equals("over") || token.equals("under")) return 'W';
    if (token.length() == 1 && "+-[],=^oAt".contains(token)) return token.charAt(0);
    return '?';
  }
}
