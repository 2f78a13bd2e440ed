import java.util.ArrayList;
import java.util.List;
import java.util.Random;

/**
 * "The ALEXANDER polynomial is the greatest common divisor of all minors of order one less than there are arcs; 0 when there is none such
 * (there are no arcs, or too few rows), or all are 0." The program finds it from one minor: here all of them are taken.
 */
public final class DivisorTest {
  private static int rowsTooFew = 0;
  private static int allZero = 0;
  private static int others = 0;

  public static void main(String[] args) {
    // A trefoil with a ring that lies over all of it, and one below it; a ring over a ring; rings that hang together by one of them.
    for (String text : new String[] {"code o 2\ntwist 0 + over\ntwist 0 - under\npush 1 over 3\n", "braid 3 1 1 1 2 -2\n", "braid 3 1 1 1 -2 2\n", "braid 3 1 -1 2 -2\n", "braid 3 1 1 2 2\n",
      "braid 4 1 1 2 2 3 3\n", "braid 3 1 2 1 2 1 2\n", "code\n", "code o 1\n", "code o 2\n", "code +[1, 1, 2, 2] o 1\n", "braid 2 1 -1\n"}) divisor(text);
    Random random = new Random(11);
    for (int round = 0; round < 500; round++) divisor(braid(random) + moves(random));
    Checks.due("diagrams with too few rows: " + rowsTooFew, rowsTooFew > 10, true);
    Checks.due("whose minors are all 0: " + allZero, allZero > 50, true);
    Checks.due("whose divisor is another: " + others, others > 150, true);
    Checks.end();
  }

  private static String braid(Random random) {
    int strands = 1 + random.nextInt(5);
    StringBuilder s = new StringBuilder("braid " + strands);
    for (int i = strands > 1 ? random.nextInt(11) : 0; i > 0; i--) s.append(random.nextBoolean() ? " " : " -").append(1 + random.nextInt(strands - 1));
    return s.append('\n').toString();
  }

  /** Crossings are changed at random: so there are components that go over upper places alone. */
  private static String moves(Random random) {
    StringBuilder s = new StringBuilder();
    for (int i = random.nextInt(6); i > 0; i--) {
      String[] some = {"change " + random.nextInt(10), "smooth " + random.nextInt(10), "reverse " + random.nextInt(4), "push " + (random.nextInt(25) - 12) + " over " + (random.nextInt(25) - 12),
        "twist " + random.nextInt(12) + " - under", "mirror", "number"};
      s.append(some[random.nextInt(some.length)]).append('\n');
    }
    return s.toString();
  }

  private static void divisor(String text) {
    LinkEngine x = new LinkEngine();
    Checks.answer(x, text);
    if (x.state(2) > 10) return;
    List<Reference.Cross> crossings = new ArrayList<>();
    for (int c = 0; c < x.state(2); c++) crossings.add(new Reference.Cross(x.crossing(c, 4), x.crossing(c, 0), x.crossing(c, 1), x.crossing(c, 2), x.crossing(c, 3)));
    String want = Reference.printPolynomial(18, Reference.alexander(crossings, x.state(3)));
    int arcs = Integer.parseInt(Checks.answer(x, "count\n").trim().split(" ")[6]);
    if (arcs - 1 > crossings.size()) rowsTooFew++;
    else if (want.equals("alexander = 0\n")) allZero++;
    else others++;
    Checks.due("behind " + text, Checks.answer(x, "alexander\n"), want);
    Checks.due("asked for, behind " + text, Checks.answer(x, want), "# yes\n");
  }
}
