/** Part IV of the document and the promises same, form and length, each sentence at its boundary and beyond. */
public final class BraidEdgeTest {
  public static void main(String[] args) {
    strands();
    letters();
    numberOfLetters();
    whatIsNoWordChangesNothing();
    theLatestTwo();
    closures();
    comeAndGo();
    exchanges();
    threeLetters();
    turnAndNone();
    twentySimpleBraids();
    neighbours();
    arguments();
    asManyStrands();
    lengthAskedFirst();
    oneWordAfterAnother();
    Checks.end();
  }

  private static void says(String text, String want) {
    Session x = new Session("<" + text + ">");
    x.due("answers", x.says(text), want);
  }

  private static void good(String line) { says(line, "# ok\n"); }

  private static void bad(String line) { says("code o 7\n" + line + "\nshow", "# ok\n# no\ncode o 7\n"); }

  /** k, and what the places become in each simple braid. */
  private static String form(Session x, boolean before, int strands) {
    StringBuilder s = new StringBuilder().append(x.form(before, 0, 0)).append(':');
    for (int j = 1; j <= x.length(before); j++) {
      s.append(' ');
      for (int p = 1; p <= strands; p++) s.append(x.form(before, j, p));
    }
    return s.toString();
  }

  private static void forms(int strands, String word, String want) {
    Session x = new Session("form of " + strands + word);
    x.due("braid", x.says("braid " + strands + word), "# ok\n");
    x.due("form", form(x, false, strands), want);
    x.due("the one before", form(x, true, 1), "0:");
  }

  private static void same(int strands, String one, String other, boolean want) {
    Session x = new Session("same of " + strands + ":" + one + " and" + other);
    x.due("braids", x.says("braid " + strands + one + "\nbraid " + strands + other), "# ok\n# ok\n");
    x.due("same", x.same(), want);
    x.due("turned", x.says("braid " + strands + one), "# ok\n");
    x.due("same, turned", x.same(), want);
  }

  /** "# no when its first number is not 1 .. 8" */
  private static void strands() {
    bad("braid 0");
    good("braid 1");
    good("braid 8");
    bad("braid 9");
    bad("braid 9 1");
    bad("braid 0 1");
    bad("braid 9999");
  }

  /** "LETTERS: i or -i, i being 1 .. N - 1"; "another one no letter" */
  private static void letters() {
    for (int n = 1; n <= 8; n++) {
      if (n > 1) {
        good("braid " + n + " 1 -1");
        good("braid " + n + " " + (n - 1));
        good("braid " + n + " -" + (n - 1));
      }
      bad("braid " + n + " 0");
      bad("braid " + n + " -0");
      bad("braid " + n + " " + n);
      bad("braid " + n + " -" + n);
      bad("braid " + n + " 9999");
    }
    bad("braid 3 1 2 1 3");
    bad("braid 3 0 1 2 1");
    bad("braid 3" + " 1".repeat(19) + " 0");
  }

  /** "or there are more than 20 letters" */
  private static void numberOfLetters() {
    good("braid 2");
    good("braid 2" + " 1".repeat(20));
    bad("braid 2" + " 1".repeat(21));
    bad("braid 2" + " 1 -1".repeat(16));
    Session x = new Session("33 letters");
    x.due("read", x.text("braid 2" + " 1".repeat(33)), -1);
    x.due("fault", x.fault(0), 5);
  }

  /** "the latest two braid words that became it": a refused one became nothing */
  private static void whatIsNoWordChangesNothing() {
    Session x = new Session("no word");
    x.due("set up", x.says("braid 3 1 1 2\nbraid 3 -1"), "# ok\n# ok\n");
    String before = x.all();
    String forms = form(x, false, 3) + form(x, true, 3);
    x.due("forms", forms, "-1: 3120: 213 312");
    for (String line : new String[] {"braid 0", "braid 9 1", "braid 3 3", "braid 3 1 0", "braid 3" + " 2".repeat(21)}) {
      x.due(line, x.says(line), "# no\n");
      x.due("behind " + line, x.all(), before);
      x.due("forms behind " + line, form(x, false, 3) + form(x, true, 3), forms);
    }
  }

  /** "at first both of one strand without letters"; two words are kept, whatever becomes of the DIAGRAM */
  private static void theLatestTwo() {
    Session x = new Session("two words");
    x.due("same at first", x.same(), true);
    x.due("forms at first", form(x, false, 1) + form(x, true, 1), "0:0:");
    x.due("none such", x.form(false, 1, 1), 0);
    x.due("one", x.says("braid 1"), "# ok\n");
    x.due("same", x.same(), true);
    x.due("two strands", x.says("braid 2 1"), "# ok\n");
    x.due("not the same", x.same(), false);
    x.due("forms", form(x, false, 2) + form(x, true, 1), "1:0:");
    x.due("three", x.says("braid 2 -1"), "# ok\n");
    x.due("forms", form(x, false, 2) + form(x, true, 2), "-1:1:");
    x.due("others", x.says("code o 1\ntwist 0 + over\nmirror\nsmooth 0\nshow"), "# ok\n# ok\n# ok\n# ok\ncode o 2\n");
    x.due("forms stay", form(x, false, 2) + form(x, true, 2), "-1:1:");
    x.due("the same word twice", x.says("braid 2 -1"), "# ok\n");
    x.due("same", x.same(), true);
    x.due("forms", form(x, false, 2) + form(x, true, 2), "-1:-1:");
  }

  /** "Strands without a crossing are CIRCLES."; "where a strand ends, that of the strand that begins there stands in place of its label" */
  private static void closures() {
    says("braid 1\nshow", "# ok\ncode o 1\n");
    says("braid 8\nshow", "# ok\ncode o 8\n");
    says("braid 2 1\nshow", "# ok\ncode +[1, 1, 2, 2]\n");
    says("braid 2 -1\nshow", "# ok\ncode -[2, 1, 1, 2]\n");
    says("braid 8 1\nshow", "# ok\ncode +[1, 1, 2, 2] o 6\n");
    says("braid 8 -7\nshow", "# ok\ncode -[8, 7, 7, 8] o 6\n");
    says("braid 3 2 1\nshow", "# ok\ncode +[2, 4, 3, 3] +[1, 1, 2, 4]\n");
    says("braid 8 1 2 3 4 5 6 7\ncount", "# ok\n# 7 0 1 1 9 7 8 7 0\n");
    Session x = new Session("20 letters on 8 strands");
    x.due("set up", x.says("braid 8" + " 7".repeat(20)), "# ok\n");
    String row = "";
    for (int w = 0; w <= 4; w++) row += x.crossing(0, w) + " " + x.crossing(1, w) + " " + x.crossing(19, w) + " ";
    x.due("places", row, "7 9 45 9 11 7 10 12 8 8 10 46 1 1 1 ");
    x.due("circles", x.state(3), 6);
    x.due("components", x.state(5), 8);
  }

  /** "two letters i, -i or -i, i next to one another come or go anywhere" */
  private static void comeAndGo() {
    same(2, " 1 -1", "", true);
    same(2, " -1 1", "", true);
    same(2, " 1", "", false);
    same(2, " 1", " -1", false);
    same(8, " 7 3 -3 -7", "", true);
    same(8, " -7 3 -3 7 5 -5", " 2 -2", true);
    same(3, " 1 2 -1", " 2", false);
    same(3, " 1 2 -2 -1 2", " 2", true);
    same(3, " 1 -2", " -2 1", false);
  }

  /** "two letters next to one another with values (without sign) that differ by more than 1 are exchanged" */
  private static void exchanges() {
    same(4, " 1 3", " 3 1", true);
    same(4, " 1 -3", " -3 1", true);
    same(4, " -1 -3", " -3 -1", true);
    same(4, " 1 2", " 2 1", false);
    same(4, " 2 3", " 3 2", false);
    same(4, " -2 3", " 3 -2", false);
    same(8, " 1 7", " 7 1", true);
    same(8, " 6 7", " 7 6", false);
    same(8, " 5 -7", " -7 5", true);
  }

  /** "three letters i, j, i next to one another, all above 0, their values differing by 1, become j, i, j" */
  private static void threeLetters() {
    same(3, " 1 2 1", " 2 1 2", true);
    same(8, " 6 7 6", " 7 6 7", true);
    same(8, " 5 7 5", " 7 5 7", false);
    same(3, " -1 -2 -1", " -2 -1 -2", true);
    same(3, " 1 2 -1", " -2 1 2", true);
    same(3, " 1 -2 1", " -2 1 -2", false);
    same(3, " 1 -2 -1", " -2 -1 2", true);
  }

  /** "none of them TURN or NONE"; "TURN k times (-k times its inverse, when k is below 0)" */
  private static void turnAndNone() {
    forms(1, "", "0:");
    forms(2, "", "0:");
    forms(8, "", "0:");
    forms(2, " 1", "1:");
    forms(2, " -1", "-1:");
    forms(2, " 1".repeat(20), "20:");
    forms(2, " -1".repeat(20), "-20:");
    forms(2, " 1".repeat(10) + " -1".repeat(10), "0:");
    forms(3, " 1 2 1", "1:");
    forms(3, " 2 1 2", "1:");
    forms(3, " -1 -2 -1", "-1:");
    forms(3, " 1 2 1".repeat(6), "6:");
    forms(3, " -2 -1 -2".repeat(6), "-6:");
    forms(3, " 1 2 1 1", "1: 213");
    forms(3, " 1 1 2 1", "1: 132");
    forms(3, " 1 2", "0: 312");
    forms(3, " 2 1", "0: 231");
    forms(4, " 1 2 3 1 2 1", "1:");
    forms(4, " 1 2 3 1 2", "0: 4312");
    forms(4, " 1 2 3 1 2 1".repeat(3) + " 1 3", "3: 2143");
    forms(6, " 1 2 3 4 5 1 2 3 4 1 2 3 1 2 1", "1:");
    forms(8, " 7", "0: 12345687");
    forms(8, " -7", "-1: 78654321");
    forms(8, " -1", "-1: 87654312");
    forms(8, " -1 1", "0:");
  }

  /** As many simple braids as there are letters at most. */
  private static void twentySimpleBraids() {
    Session x = new Session("20 simple braids");
    x.due("set up", x.says("braid 3" + " -1".repeat(20) + "\nbraid 3" + " 1".repeat(20)), "# ok\n# ok\n");
    x.due("k", x.form(false, 0, 0), 0);
    x.due("length", x.length(false), 20);
    for (int j : new int[] {1, 2, 19, 20}) x.due("simple braid " + j, "" + x.form(false, j, 1) + x.form(false, j, 2) + x.form(false, j, 3), "213");
    for (int p = 1; p <= 3; p++) x.due("none such", x.form(false, 21, p), 0);
    x.due("k below 0", x.form(true, 0, 0), -20);
    x.due("length", x.length(true), 20);
    // TURN's inverses go to the front, each of them turning what is ahead of it.
    for (int j : new int[] {1, 2, 19, 20})
      x.due("simple braid " + j, "" + x.form(true, j, 1) + x.form(true, j, 2) + x.form(true, j, 3), j % 2 == 0 ? "312" : "231");
    for (int p = 1; p <= 3; p++) x.due("none such", x.form(true, 21, p), 0);
    forms(8, " 1 1 7 7", "0: 21345687 21345687");
    forms(8, " 4".repeat(3), "0: 12354678 12354678 12354678");
  }

  /** "when the strands that begin at the places i, i + 1 cross in T, those that end at i, i + 1 cross in S" */
  private static void neighbours() {
    forms(3, " 1 1 2", "0: 213 312");
    forms(3, " 1 2 2", "0: 312 132");
    forms(3, " 1 2 2 1", "0: 312 231");
    forms(3, " 1 1 2 2", "0: 213 312 132");
    forms(4, " 1 2 3 3 2 1", "0: 4123 2341");
    forms(4, " 1 3 2", "0: 3142");
  }

  /** Promise 11: "k when j is 0 (p is not looked at); otherwise of Sj what p becomes; 0 when there is none such." */
  private static void arguments() {
    Session x = new Session("arguments");
    x.due("set up", x.says("braid 8 7 7\nbraid 3 1 2 1 1"), "# ok\n# ok\n");
    for (int p : new int[] {Integer.MIN_VALUE, -1, 0, 1, 3, 4, 8, 9, Integer.MAX_VALUE}) {
      x.due("k, p " + p, x.form(false, 0, p), 1);
      x.due("k before, p " + p, x.form(true, 0, p), 0);
      x.due("S1, p " + p, x.form(false, 1, p), p == 1 ? 2 : p == 3 ? 3 : 0);
      x.due("S2 before, p " + p, x.form(true, 2, p), p == 8 ? 7 : p >= 1 && p <= 4 ? p : 0);
    }
    for (int j : new int[] {Integer.MIN_VALUE, -1, 2, 3, 21, 1 << 29, 1 << 28, Integer.MAX_VALUE}) x.due("S" + j, x.form(false, j, 1), 0);
    for (int j : new int[] {-1, 3, 1 << 29, (1 << 29) + 1}) x.due("S" + j + " before", x.form(true, j, 1), 0);
    x.due("lengths", x.length(false) * 10 + x.length(true), 12);
  }

  /** Promise 10: "have as many strands and are one braid" */
  private static void asManyStrands() {
    Session x = new Session("strands");
    x.due("one and two", x.says("braid 2") + x.same(), "# ok\nfalse");
    x.due("two and three", x.says("braid 3") + x.same(), "# ok\nfalse");
    x.due("three and three", x.says("braid 3 1 -1") + x.same(), "# ok\ntrue");
    x.due("eight", x.says("braid 8") + x.same(), "# ok\nfalse");
    x.due("the same letters", x.says("braid 4 1\nbraid 5 1") + x.same(), "# ok\n# ok\nfalse");
    x.due("the same k", x.says("braid 2 1\nbraid 3 1 2 1") + x.same(), "# ok\n# ok\nfalse");
  }

  /** Promise 12: "How many simple braids that normal form has", whatever was asked before */
  private static void lengthAskedFirst() {
    Session x = new Session("length first");
    x.due("none at first", x.length(false) * 10 + x.length(true), 0);
    x.due("set up", x.says("braid 3 1 1 2 2\nbraid 3 -1 -1"), "# ok\n# ok\n");
    x.due("length", x.length(false), 2);
    x.due("the one before", x.length(true), 3);
    x.due("another", x.says("braid 8"), "# ok\n");
    x.due("length", x.length(false), 0);
    x.due("the one before", x.length(true), 2);
  }

  /** A word's form has nothing of the words that were there earlier. */
  private static void oneWordAfterAnother() {
    Session x = new Session("one word after another");
    String[][] rows = {{"3", " 1 2 1 1", "1: 213"}, {"2", " -1 -1", "-2:"}, {"3", " 1 1 2 2", "0: 213 312 132"}, {"4", " 1 3", "0: 2143"}, {"2", " 1", "1:"}, {"8", "", "0:"},
      {"1", "", "0:"}, {"3", " -1", "-1: 312"}, {"3", "", "0:"}, {"4", " 1 2 3 3 2 1", "0: 4123 2341"}};
    String before = "0:";
    int strands = 1;
    for (String[] row : rows) {
      x.due(row[1], x.says("braid " + row[0] + row[1]), "# ok\n");
      int n = Integer.parseInt(row[0]);
      x.due("form of" + row[1], form(x, false, n), row[2]);
      x.due("form before" + row[1], form(x, true, strands), before);
      before = row[2];
      strands = n;
    }
  }
}
