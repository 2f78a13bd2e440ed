import java.math.BigInteger;
import java.util.ArrayList;
import java.util.Collections;
import java.util.List;
import java.util.Random;

/** Part V of the document and the lines of the kinds 16 to 18, each sentence at its boundary and beyond. */
public final class PolynomialEdgeTest {
  private static final String TREFOIL = "braid 2 1 1 1\n";
  private static final String MOST = "999999999999999999";

  public static void main(String[] args) {
    withoutCrossingsAndCircles();
    circlesLessOne();
    withoutArcs();
    tooFewRows();
    allMinorsAreZero();
    minorOfOrderZero();
    normalForm();
    nineCircles();
    tenCrossings();
    tenCrossingsAndNineCircles();
    manyWhateverIsAsked();
    justThatPolynomial();
    theNormalFormItself();
    termsAddedUp();
    wholeNumbersOfAnySize();
    anySizeByChance();
    zeroWithoutTerms();
    printedIsATextAgain();
    oneAfterAnother();
    Checks.end();
  }

  private static void says(String text, String want) {
    Session x = new Session("<" + text + ">");
    String s = x.says(text);
    while (s.startsWith("# ok\n")) s = s.substring(5);
    x.due("answers", s, want);
  }

  private static String loops(int n, boolean above) {
    StringBuilder s = new StringBuilder("code");
    for (int k = 0; k < n; k++) {
      int a = 2 * k + 1;
      int b = a + 1;
      s.append(above ? " +[" + a + ", " + a + ", " + b + ", " + b + "]" : " -[" + b + ", " + a + ", " + a + ", " + b + "]");
    }
    return s.toString();
  }

  /** Plus or minus A^shift times (A^2 + A^-2)^n, as it is printed. */
  private static String powers(String word, int sign, int n, int shift) {
    StringBuilder s = new StringBuilder(word + " =");
    BigInteger c = BigInteger.ONE;
    for (int k = 0; k <= n; k++) {
      int e = 4 * k - 2 * n + shift;
      s.append(k == 0 ? sign < 0 ? " -" : " " : sign < 0 ? " - " : " + ");
      if (!c.equals(BigInteger.ONE) || e == 0) s.append(c);
      if (e != 0) s.append('A');
      if (e != 0 && e != 1) s.append('^').append(e);
      c = c.multiply(BigInteger.valueOf(n - k)).divide(BigInteger.valueOf(k + 1));
    }
    return s.append('\n').toString();
  }

  /** "that of a diagram without crossings and circles is 1" */
  private static void withoutCrossingsAndCircles() {
    says("bracket\njones", "bracket = 1\njones = 1\n");
    says("bracket = 1\njones = 1\nbracket = 0\njones = A", "# yes\n# yes\n# no\n# no\n");
  }

  /** "d to the power of (its circles less one)" */
  private static void circlesLessOne() {
    for (int n = 1; n <= 9; n++) says("code o " + n + "\nbracket\njones", powers("bracket", n % 2 == 0 ? -1 : 1, n - 1, 0) + powers("jones", n % 2 == 0 ? -1 : 1, n - 1, 0));
    says(loops(1, true) + "\nbracket\njones", "bracket = -A^3\njones = 1\n");
    says(loops(1, false) + "\nbracket\njones", "bracket = -A^-3\njones = 1\n");
  }

  /** "0 when there is none such (there are no arcs ..)" */
  private static void withoutArcs() {
    says("alexander", "alexander = 0\n");
    says("alexander = 0\nalexander = 1", "# yes\n# no\n");
    says("code o 1\nalexander", "alexander = 1\n");
  }

  /** "or too few rows" */
  private static void tooFewRows() {
    says("code o 2\nalexander", "alexander = 0\n");
    says("code o 9\nalexander", "alexander = 0\n");
    says(loops(1, true) + " o 2\nalexander", "alexander = 0\n");
    says("braid 2 1 -1\nbraid 4 1 -1\nalexander", "alexander = 0\n");
  }

  /** "or all are 0" */
  private static void allMinorsAreZero() {
    says(loops(1, true) + " o 1\nalexander", "alexander = 0\n");
    says(loops(2, true) + "\nalexander", "alexander = 0\n");
    says("braid 2 1 -1\nalexander", "alexander = 0\n");
    says("code +[1, 3, 4, 2] +[3, 1, 2, 4] o 1\nalexander", "alexander = 0\n");
    says("braid 5 1 1 1 4 4\nalexander", "alexander = 0\n");
    says("braid 8 1 1 1 7\nalexander", "alexander = 0\n");
    says("braid 8 1 1 1 2 3 4 5 6 7\nalexander", "alexander = 1 - t + t^2\n");
  }

  /** "the one of order 0 is 1" */
  private static void minorOfOrderZero() {
    says("code o 1\nalexander\nalexander = 1", "alexander = 1\n# yes\n");
    says(loops(1, true) + "\nalexander", "alexander = 1\n");
    says(loops(1, false) + "\nalexander", "alexander = 1\n");
    says("braid 3 1 2\nalexander", "alexander = 1\n");
  }

  /** "the power of t and the sign that make its lowest exponent 0 and its coefficient there positive" */
  private static void normalForm() {
    for (String word : new String[] {" 1 1 1", " -1 -1 -1"}) says("braid 2" + word + "\nalexander", "alexander = 1 - t + t^2\n");
    for (String word : new String[] {" 1 1", " -1 -1"}) says("braid 2" + word + "\nalexander", "alexander = 1 - t\n");
    says("braid 2 1 1 1 1\nalexander", "alexander = 1 - t + t^2 - t^3\n");
    says(TREFOIL + "twist 1 + over\ntwist 2 - under\nmirror\nalexander", "alexander = 1 - t + t^2\n");
    says("braid 3 1 1 1 2 -1 2\nalexander", "alexander = 2 - 3t + 2t^2\n");
  }

  /** "# many when the DIAGRAM has more than 9 circles" */
  private static void nineCircles() {
    says("code o 9\njones\nalexander\nbracket = 1", powers("jones", 1, 8, 0) + "alexander = 0\n# no\n");
    says("code o 10\nbracket\njones\nalexander", "# many\n# many\n# many\n");
    says("code o 20\njones", "# many\n");
    says(loops(1, true) + " o 10\njones", "# many\n");
    says(loops(1, true) + " o 9\njones", powers("jones", -1, 9, 0));
  }

  /** "or more than 10 crossings" */
  private static void tenCrossings() {
    says("braid 2" + " 1".repeat(10) + "\nalexander", "alexander = 1 - t + t^2 - t^3 + t^4 - t^5 + t^6 - t^7 + t^8 - t^9\n");
    says("braid 2" + " 1".repeat(11) + "\nbracket\njones\nalexander", "# many\n# many\n# many\n");
    says("braid 2" + " 1".repeat(20) + "\njones", "# many\n");
    says("braid 2 1 1 1" + " 1 -1".repeat(3) + " 1\nalexander", "alexander = 1 - t + t^2 - t^3\n");
    says("braid 2" + " 1 -1".repeat(5) + "\njones\nalexander", "jones = -A^-2 - A^2\nalexander = 0\n");
    says("braid 2" + " -1".repeat(10) + "\nbracket", tenInARow());
  }

  /** The bracket of n crossings in a row below 0: with each one A^-1 of the row one shorter, and A times - A^3 for each of the others. */
  private static String tenInARow() {
    java.util.TreeMap<Integer, BigInteger> p = new java.util.TreeMap<>();
    // Smoothed along the strands (B below 0) it is the row one shorter, otherwise a circle with n - 1 loops of the same kind.
    Reference.add(p, 2, BigInteger.ONE.negate());
    Reference.add(p, -2, BigInteger.ONE.negate());
    for (int n = 1; n <= 10; n++) {
      java.util.TreeMap<Integer, BigInteger> q = new java.util.TreeMap<>();
      p.forEach((e, c) -> Reference.add(q, e - 1, c));
      Reference.add(q, 1 + 3 * (n - 1), BigInteger.valueOf(n % 2 == 1 ? 1 : -1));
      p = q;
    }
    return Reference.printPolynomial(16, p);
  }

  /** As many closed ways as there can be: each loop has a state with two, and nine circles. */
  private static void tenCrossingsAndNineCircles() {
    says(loops(10, true) + " o 9\nbracket\njones\nalexander", powers("bracket", 1, 18, 30) + powers("jones", 1, 18, 0) + "alexander = 0\n");
    says(loops(10, false) + " o 9\nbracket", powers("bracket", 1, 18, -30));
    says(loops(10, true) + " o 9\nmirror\nbracket", powers("bracket", 1, 18, -30));
    says(loops(10, true) + " o 10\nbracket", "# many\n");
    says(loops(11, true) + " o 9\nbracket", "# many\n");
    says(loops(9, false) + " o 9\nbracket", powers("bracket", 1, 17, -27));
  }

  /** "# many when .. Otherwise, without P: .. with P: .." */
  private static void manyWhateverIsAsked() {
    says("code o 10\nbracket = 1\njones = 0\nalexander = 0\nalexander = t", "# many\n# many\n# many\n# many\n");
    says("braid 2" + " 1".repeat(11) + "\nbracket = 1\njones = 0\nalexander = 0", "# many\n# many\n# many\n");
  }

  /** "is just that polynomial, or not" */
  private static void justThatPolynomial() {
    String p = TREFOIL + "jones = ";
    says(p + "-A^-16 + A^-12 + A^-4", "# yes\n");
    says(p + "A^-4 - A^-16 + A^-12", "# yes\n");
    says(p + "A^-4 - A^-16", "# no\n");
    says(p + "A^-4 - A^-16 + A^-12 + 1", "# no\n");
    says(p + "A^-4 - A^-16 + A^-12 - A^-4", "# no\n");
    says(p + "A^-4 - A^-16 + A^-13", "# no\n");
    says(p + "A^-4 - A^-16 + 2A^-12", "# no\n");
    says(p + "A^-4 - A^-16 + A^-12 + A^9999", "# no\n");
    says(p + "A^-4 - A^-16 + A^-12 + A^-9999", "# no\n");
    says(p + "A^-4 - A^-16 + A^-12 + 0A^9999 - 0A^-9999", "# yes\n");
    says(p + "A^4 - A^16 + A^12", "# no\n");
    says(p + "0", "# no\n");
  }

  /** "(18: the normal form itself)" */
  private static void theNormalFormItself() {
    String p = TREFOIL + "alexander = ";
    says(p + "1 - t + t^2", "# yes\n");
    says(p + "t^2 - t + 1", "# yes\n");
    says(p + "-1 + t - t^2", "# no\n");
    says(p + "t - t^2 + t^3", "# no\n");
    says(p + "t^-1 - 1 + t", "# no\n");
    says(p + "2 - 2t + 2t^2", "# no\n");
    says("braid 2 1 1\nalexander = 1 - t\nalexander = -1 + t\nalexander = t - 1", "# yes\n# no\n# no\n");
  }

  /** "its terms of one exponent added up exactly" */
  private static void termsAddedUp() {
    says("alexander = t - t\nalexander = t - t + t", "# yes\n# no\n");
    String one = "code o 1\njones = ";
    says(one + "3 - 2", "# yes\n");
    says(one + "A^0", "# yes\n");
    says(one + "A^-0 + A - A^1", "# yes\n");
    says(one + "2A^-0 - A^0", "# yes\n");
    says(one + "2 - A", "# no\n");
    says(one + "A^9999 + 1 - A^9999", "# yes\n");
    says(one + "A^-9999 + 1 + A^9999 - A^-9999 - A^9999", "# yes\n");
    says(one + "1" + " + A - A".repeat(31), "# yes\n");
    says(one + "1" + " + A - A".repeat(31) + " + A", "# no\n");
  }

  /** "as whole numbers of any size": sums beyond 63 and 64 bits, that wrap around to what is right or not */
  private static void wholeNumbersOfAnySize() {
    String one = "code o 1\njones = ";
    says(one + MOST + " - " + MOST + " + 1", "# yes\n");
    says(one + (MOST + " + ").repeat(31) + "1" + (" - " + MOST).repeat(31), "# yes\n");
    says(one + (MOST + " + ").repeat(31) + "1" + (" - " + MOST).repeat(32), "# no\n");
    says(one + "1" + (" - " + MOST).repeat(31) + (" + " + MOST).repeat(30) + " + " + "999999999999999998", "# no\n");
    says(one + "2" + (" - " + MOST).repeat(31) + (" + " + MOST).repeat(30) + " + " + "999999999999999998", "# yes\n");
    // 2^64 is 18 times the most and 446744073709551634 more; 2^63 is nine times the most and 223372036854775817 more; 2^32 is 4294967296.
    says(one + "1" + (" + " + MOST).repeat(18) + " + 446744073709551634", "# no\n");
    says(one + "1" + (" - " + MOST).repeat(18) + " - 446744073709551634", "# no\n");
    says(one + "1" + (" + " + MOST).repeat(36) + " + 893488147419103268", "# no\n");
    says(one + "1" + (" + " + MOST).repeat(9) + " + 223372036854775817", "# no\n");
    says(one + "4294967297", "# no\n");
    says(one + "1 + 1000000000 - 1000000000", "# yes\n");
    says(one + "1000000001", "# no\n");
    says(one + "1000000000 - 999999999", "# yes\n");
    says(one + "-999999999 + 1000000000", "# yes\n");
    says(one + "999999999 - 1000000000", "# no\n");
    says(one + "2000000000 - 999999999 - 1000000000", "# yes\n");
    says(one + "1000000000 - 1999999999", "# no\n");
    says(one + "1" + " + 999999999".repeat(10) + " - 9999999990", "# yes\n");
    says(one + "9999999991" + " - 999999999".repeat(10), "# yes\n");
    says(one + "9999999991" + " - 999999999".repeat(10) + " - 1", "# no\n");
    says(one + "1000000000A + 1 - 1000000000A", "# yes\n");
    says(one + "1" + (" - " + MOST).repeat(18) + " - 446744073709551634" + (" + " + MOST).repeat(18) + " + 446744073709551634", "# yes\n");
  }

  /** Sums of great numbers that are small, told with terms as they come: whatever is carried, they are added up exactly. */
  private static void anySizeByChance() {
    Random random = new Random(18);
    String[] wrong = {"1", "1000000000", "999999999", "4294967296", "1000000000000000000", "9223372036854775808", "18446744073709551616"};
    for (int round = 0; round < 200; round++) {
      String[] goal = {"1A^-4", "1A^-12", "-1A^-16", "0A^0", "0A^7"}; // the trefoil's, and what it has not
      List<String> terms = new ArrayList<>();
      for (String g : goal) {
        String[] parts = g.split("A");
        BigInteger left = new BigInteger(parts[0]);
        for (int i = random.nextInt(5); i > 0; i--) {
          BigInteger some = new BigInteger(random.nextInt(60), random).mod(new BigInteger(MOST)).multiply(BigInteger.valueOf(random.nextBoolean() ? 1 : -1));
          addTerms(terms, some, parts[1]);
          left = left.subtract(some);
        }
        addTerms(terms, left, parts[1]);
      }
      Collections.shuffle(terms, random);
      says(TREFOIL + "jones = 0" + String.join("", terms), "# yes\n");
      addTerms(terms, new BigInteger(wrong[round % wrong.length]).multiply(BigInteger.valueOf(random.nextBoolean() ? 1 : -1)), goal[random.nextInt(5)].split("A")[1]);
      Collections.shuffle(terms, random);
      says(TREFOIL + "jones = 0" + String.join("", terms), "# no\n");
    }
  }

  /** Terms of at most 18 digits that come to that coefficient. */
  private static void addTerms(List<String> terms, BigInteger coefficient, String exponent) {
    BigInteger rest = coefficient.abs();
    String sign = coefficient.signum() < 0 ? " - " : " + ";
    while (rest.signum() > 0) {
      BigInteger one = rest.min(new BigInteger(MOST));
      terms.add(sign + one + (exponent.equals("^0") ? "" : "A" + exponent));
      rest = rest.subtract(one);
    }
  }

  /** "(0 when there are none)" */
  private static void zeroWithoutTerms() {
    says("code o 2\nalexander\nalexander = 0\nalexander = -0\nalexander = 0t^5\nalexander = 1", "alexander = 0\n# yes\n# yes\n# yes\n# no\n");
  }

  /** "all that is printed is a text again": a polynomial's line asks whether it is that */
  private static void printedIsATextAgain() {
    for (String code : new String[] {"code", "code o 9", "code o 2", loops(10, true) + " o 9", loops(3, false), TREFOIL, "braid 3 1 -2 1 -2", "braid 4 1 -2 3 3 -2 1 1"}) {
      Session x = new Session("printed again: " + code);
      x.text(code + "\nbracket\njones\nalexander\n");
      x.due("done", x.runAll(), 4);
      int n = x.wipe(true);
      x.due("read", x.read(n), 3);
      x.due("done", x.runAll(), 3);
      x.due("answers", x.paper(), "# yes\n# yes\n# yes\n");
    }
  }

  /** A polynomial has nothing of those that were found earlier. */
  private static void oneAfterAnother() {
    String[][] rows = {{"braid 3 1 -2 1 -2 1 -2 1 -2 1 -2", null}, {TREFOIL.trim(), "1 - t + t^2"}, {"braid 3 1 -2 1 -2", "1 - 3t + t^2"}, {"code o 9", "0"}, {"code o 1", "1"},
      {"braid 2 1 1", "1 - t"}, {loops(10, true), "0"}, {"braid 3 1 1 1 2 -1 2", "2 - 3t + 2t^2"}, {"braid 4 1 -2 3 -2 1 -2 3 -2 1 3", null}, {"braid 2 1 1 1 1", "1 - t + t^2 - t^3"},
      {"braid 3 1 2", "1"}, {"code", "0"}, {"braid 2 -1 -1 -1", "1 - t + t^2"}, {"braid 2 1 -1", "0"}, {"braid 3 1 -2 1 -2", "1 - 3t + t^2"}};
    Session x = new Session("one after another");
    for (String[] row : rows) {
      Session alone = new Session("alone");
      String bracket = alone.says(row[0] + "\nbracket").substring(5);
      String alexander = row[1] == null ? new Session("alone").says(row[0] + "\nalexander").substring(5) : "alexander = " + row[1] + "\n";
      x.text(row[0] + "\n" + alexander + bracket);
      x.due("lines", x.runAll(), 3);
      x.due("as if alone: " + row[0], x.paper(), "# ok\n# yes\n# yes\n");
      x.wipe(false);
    }
  }
}
