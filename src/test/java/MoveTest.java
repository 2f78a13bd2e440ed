import java.math.BigInteger;
import java.util.Random;
import java.util.TreeMap;

/** What moves must leave as it is, or change in a known way: the knot's polynomials, whatever the diagram is. */
public final class MoveTest {
  private static final Random RANDOM = new Random(5);
  private static final int[] DONE = new int[8];

  public static void main(String[] args) {
    for (int i = 0; i < 700; i++) walk("walk " + i);
    for (int i = 0; i < 500; i++) skein("skein " + i);
    for (int i = 0; i < DONE.length; i++) Checks.due("move " + i + " was done often", DONE[i] >= 20, true);
    Checks.end();
  }

  private static String braid() {
    int n = 1 + RANDOM.nextInt(4);
    StringBuilder s = new StringBuilder("braid " + n);
    for (int k = n == 1 ? 0 : RANDOM.nextInt(7); k > 0; k--) s.append(' ').append((RANDOM.nextBoolean() ? -1 : 1) * (1 + RANDOM.nextInt(n - 1)));
    return s + "\n";
  }

  /** Moves with a seed's choice: jones and alexander stay; what is shown is always a diagram. */
  private static void walk(String name) {
    String diagram = braid();
    LinkEngine x = new LinkEngine();
    Checks.answer(x, diagram);
    String want = Checks.answer(x, "jones\nalexander\n");
    for (int step = 0; step < 12; step++) {
      String faces = Checks.answer(x, "faces\n");
      String[] rows = faces.split("\n");
      String[] row = rows[RANDOM.nextInt(rows.length)].split(" ");
      String[] other = rows[RANDOM.nextInt(rows.length)].split(" ");
      int kind = RANDOM.nextInt(8);
      if (rows.length == 1) kind = kind == 3 ? 3 : 2;
      else if (row.length < 4) continue;
      String line = "";
      String dart = rows.length == 1 ? "" : row[3 + RANDOM.nextInt(row.length - 3)];
      String side = RANDOM.nextBoolean() ? "over" : "under";
      switch (kind) {
        case 0: line = "undo " + row[1]; break;
        case 1: for (String r : rows) if (r.split(" ").length == 6 && r.split(" ")[2].equals("3")) line = "slide " + r.split(" ")[1]; break;
        case 2: line = "twist " + (rows.length == 1 ? "0" : dart.replace("-", "")) + (RANDOM.nextBoolean() ? " + " : " - ") + side; break;
        case 3: line = "simplify"; break;
        case 4: case 5: line = "push " + dart + " " + side + " " + row[3 + RANDOM.nextInt(row.length - 3)]; break;
        case 6: if (other.length > 3) line = "push " + dart + " " + side + " " + other[3 + RANDOM.nextInt(other.length - 3)]; break;
        default: line = "number"; break;
      }
      if (line.isEmpty()) continue;
      int crossings = x.state(2);
      String shown = Checks.answer(x, "show\n");
      String did = Checks.answer(x, line + "\n");
      String now = Checks.answer(x, "show\n");
      if (did.equals("# no\n")) { Checks.due(name + " " + line + " did nothing", now, shown); continue; }
      DONE[kind]++;
      if (kind == 1) Checks.due(name + " slide keeps crossings", x.state(2), crossings);
      Checks.due(name + " " + line + " on " + shown + " leaves a diagram", Checks.fresh(now + "show\n"), "# ok\n" + now);
      if (x.state(2) <= 10) Checks.due(name + " " + line + " on " + shown + " to " + now, Checks.fresh(now + "jones\nalexander\n").substring(5), want);
      if (x.state(2) > 12) Checks.answer(x, "simplify\n");
    }
  }

  private static TreeMap<Integer, BigInteger> jones(String text) {
    LinkEngine x = new LinkEngine();
    Checks.answer(x, text);
    String s = Checks.answer(x, "jones\n");
    TreeMap<Integer, BigInteger> p = new TreeMap<>();
    Reference.Line line = Reference.parse(Checks.bytes(s)).get(0);
    for (int i = 0; i < line.numbers.size(); i += 2) Reference.add(p, line.at(i + 1), line.numbers.get(i));
    return p;
  }

  private static void addTimes(TreeMap<Integer, BigInteger> to, TreeMap<Integer, BigInteger> p, int raise, int factor) {
    p.forEach((e, c) -> Reference.add(to, e + raise, c.multiply(BigInteger.valueOf(factor))));
  }

  /** A^4 J(+) - A^-4 J(-) = (A^-2 - A^2) J(0); the mirror's J has all exponents turned; all components reversed is the same. */
  private static void skein(String name) {
    String diagram = braid();
    LinkEngine x = new LinkEngine();
    Checks.answer(x, diagram);
    int n = x.state(2);
    int components = x.state(5);
    StringBuilder reversed = new StringBuilder(diagram);
    for (int c = 0; c < components; c++) reversed.append("reverse ").append(c).append('\n');
    TreeMap<Integer, BigInteger> turned = new TreeMap<>();
    jones(diagram).forEach((e, c) -> turned.put(-e, c));
    Checks.due(name + " mirror", jones(diagram + "mirror\n"), turned);
    Checks.due(name + " reversed", jones(reversed.toString()), jones(diagram));
    if (n == 0) return;
    int k = RANDOM.nextInt(n);
    int sign = x.crossing(k, 4);
    TreeMap<Integer, BigInteger> sum = new TreeMap<>();
    addTimes(sum, jones(diagram), 4 * sign, sign);
    addTimes(sum, jones(diagram + "change " + k + "\n"), -4 * sign, -sign);
    TreeMap<Integer, BigInteger> smooth = jones(diagram + "smooth " + k + "\n");
    addTimes(sum, smooth, -2, -1);
    addTimes(sum, smooth, 2, 1);
    Checks.due(name + " of " + diagram, sum, new TreeMap<Integer, BigInteger>());
  }
}
