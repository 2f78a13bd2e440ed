/** For each promise: answers worked out by hand from the document, its edges, and wrong inputs. */
public final class PromiseTest {
  private static final String TREFOIL = "braid 2 1 1 1\n";
  private static final String HOPF = "braid 2 1 1\n";

  private static void due(String what, Object got, Object want) { Checks.due(what, got, want); }

  private static String fresh(String text) { return Checks.fresh(text); }

  /** What is shown behind a text whose lines all answer # ok. */
  private static String shown(String text) {
    String s = fresh(text + "show\n");
    while (s.startsWith("# ok\n")) s = s.substring(5);
    return s;
  }

  public static void main(String[] args) {
    newObject();
    feed();
    read();
    faults();
    run();
    codes();
    closures();
    moves();
    limitsOfMoves();
    measures();
    polynomials();
    equalities();
    state();
    crossing();
    printedAndWipe();
    forms();
    Checks.end();
  }

  private static void newObject() { // promise 1
    LinkEngine x = new LinkEngine();
    due("lines", x.state(0), 0);
    due("kind", x.state(1), 0);
    for (int w = 2; w <= 7; w++) due("state " + w, x.state(w), 0);
    due("printed", x.printed(0), -1);
    due("fault", x.fault(0), -1);
    due("place", x.fault(1), -1);
    due("run", x.run(16), 0);
    due("same", x.same(), true);
    due("length", x.length(true), 0);
    due("read of nothing", x.read(1), -2);
    due("fault behind -2", x.fault(0), -1);
  }

  private static void feed() { // promise 2
    LinkEngine x = new LinkEngine();
    for (int i = 1; i <= 200; i++) due("feed " + i, x.feed(0x73686f77, 0x20202020, 0x20202020, 0x20202020, 0x2020200a), 20 * i);
    due("one too many", x.feed(0, 0, 0, 0, 0), -1);
    due("nothing done", x.state(7), 4000);
    due("64 lines and one more", x.read(64 * 20), 64);
    due("the tape is empty", x.state(7), 0);
    due("bytes are unsigned", x.feed(0x23ff0000, 0, 0, 0, 0), 20);
    due("refused", x.read(20), -1);
    due("stray", x.fault(0) * 100 + x.fault(1), 101);
    // 4,000 printed bytes, then on the tape; 3,981 leave no room for twenty.
    for (int n : new int[] {3980, 3985}) {
      LinkEngine y = new LinkEngine();
      fill(y, n / 5);
      due("wiped", y.wipe(true), n);
      due("feed behind " + n, y.feed(0, 0, 0, 0, 0), n == 3980 ? 4000 : -1);
      due("tape behind " + n, y.state(7), n == 3980 ? 4000 : n);
    }
  }

  /** Prints five bytes so many times: the diagram is empty. */
  private static void fill(LinkEngine x, int times) {
    int left = times;
    while (left > 0) {
      int n = Math.min(64, left);
      due("fill", Checks.read(x, "show\n".repeat(n)), n);
      while (x.state(0) > 0) if (x.run(16) <= 0) return;
      left -= n;
    }
  }

  private static void read() { // promise 3
    LinkEngine x = new LinkEngine();
    due("two lines", Checks.read(x, "show\n\n  # nothing\n count # it\n"), 2);
    due("no fault", x.fault(0), 0);
    due("no place", x.fault(1), -1);
    due("below 0", x.read(-1), -2);
    due("more than there are", x.read(1), -2);
    due("they wait on", x.state(0), 2);
    due("empty text", x.read(0), 0);
    due("none wait", x.state(0), 0);
    x.feed(0x73686f77, 0x0a636f75, 0x6e740a66, 0x61636573, 0x0a0a0a0a);
    due("the first line alone", x.read(5), 1);
    due("the rest is gone", x.state(7), 0);
    due("kind", x.state(1), 13);
    due("a fault", Checks.read(x, "shows"), -1);
    due("none wait behind it", x.state(0), 0);
    due("no spaces", Checks.read(x, "twist1-over\npush-1under-2\nundo3\ncode+[1,2,3,4]o5\nbraid3-1 2\nbracket=-3A^-2+A-2"), 6);
    due("many spaces", Checks.read(x, " push  - 1 over - 2 \n braid 3 - 1 2\njones = - 3 A ^ - 2 + A - 2 "), 3);
  }

  private static void fault(String text, int code, int place) {
    LinkEngine x = new LinkEngine();
    due("read <" + text + ">", Checks.read(x, text), code == 0 ? x.state(0) : -1);
    due("fault of <" + text + ">", x.fault(0), code);
    due("place of <" + text + ">", x.fault(1), code == 0 ? -1 : place);
    due("what 2", x.fault(2), -1);
    due("what -1", x.fault(-1), -1);
  }

  private static void faults() { // promise 4
    fault("show\tcount", 1, 4);
    fault("show # a \177", 1, 9);
    fault("show # a ~\n", 0, -1);
    fault("braid # \200\n", 1, 8);
    fault("braid # x\n", 4, 9);
    fault("undo\r\n", 1, 4);
    fault("\37", 1, 0);
    fault("undo 01", 2, 5);
    fault("undo 0", 0, -1);
    fault("undo 9999", 0, -1);
    fault("undo 10000", 2, 5);
    fault("jones = 10000", 0, -1);
    fault("jones = 999999999999999999A", 0, -1);
    fault("jones = 1000000000000000000A", 2, 8);
    fault("jones = 00A", 2, 8);
    fault("jones = A^10000", 2, 10);
    fault("jones = A^-9999", 0, -1);
    fault("jones 10000", 2, 6);
    fault("jones = A 10000", 2, 10);
    fault("jones = 3 10000", 2, 10);
    fault("10000", 2, 0);
    fault("7", 3, 0);
    fault("007", 2, 0);
    fault("show 00", 2, 5);
    fault("Show", 3, 0);
    fault("show\n  shows\n", 3, 7);
    fault("+", 3, 0);
    fault("show show", 4, 5);
    fault("undo", 4, 4);
    fault("undo   # x", 4, 10);
    fault("undo \nshow", 4, 5);
    fault("undo - 3", 4, 5);
    fault("undo 3 4", 4, 7);
    fault("twist 1 over", 4, 8);
    fault("twist 1 + above", 4, 10);
    fault("push 1 over", 4, 11);
    fault("push - over 1", 4, 7);
    fault("push +1 over 1", 4, 5);
    fault("code [1,2,3,4]", 4, 5);
    fault("code +[1,2,3]", 4, 12);
    fault("code +[1,2,3,-4]", 4, 13);
    fault("code o", 4, 6);
    fault("code o 1 + [1,1,2,2]", 4, 9);
    fault("code", 0, -1);
    fault("braid", 4, 5);
    fault("braid -2", 4, 6);
    fault("braid 2 +1", 4, 8);
    fault("jones =", 4, 7);
    fault("jones = +A", 4, 8);
    fault("jones = t", 4, 8);
    fault("jones = AA", 4, 8);
    fault("jones = 2^3", 4, 9);
    fault("jones = A^", 4, 10);
    fault("jones = A^+3", 4, 10);
    fault("jones = A +", 4, 11);
    fault("jones = - - A", 4, 10);
    fault("jones = A A", 4, 10);
    fault("alexander = A", 4, 12);
    fault("alexander = 2t^0 - 0", 0, -1);
    fault("bracket A", 4, 8);
    fault("code" + " +[1,1,2,2]".repeat(20), 0, -1);
    fault("code" + " +[1,1,2,2]".repeat(20) + " - x", 5, 4 + 20 * 11 + 1);
    fault("braid 3" + " 1".repeat(32), 0, -1);
    fault("braid 3" + " 1".repeat(32) + " - x", 5, 72);
    fault("braid 3" + " 1".repeat(32) + " 7", 5, 72);
    fault("braid 3" + " 1".repeat(32) + " 07", 2, 72);
    fault("braid 3" + " 1".repeat(32) + " x", 4, 72);
    fault("jones = A" + "+A".repeat(63), 0, -1);
    fault("jones = A" + "+A".repeat(63) + " +", 5, 136);
    fault("show\n".repeat(64) + "\n#\n", 0, -1);
    fault("show\n".repeat(64) + " show", 5, 321);
    fault("show\n".repeat(64) + " shows", 3, 321);
    fault("show\n".repeat(64) + " 12345", 2, 321);
    fault("undo 1 2 \177", 4, 7);
  }

  private static void run() { // promise 5
    LinkEngine x = new LinkEngine();
    due("n below 0", x.run(-1), -1);
    due("n above 16", x.run(17), -1);
    Checks.read(x, "show\n".repeat(20));
    due("none", x.run(0), 0);
    due("16", x.run(16), 16);
    due("the rest", x.run(16), 4);
    due("no more", x.run(1), 0);
    Checks.read(x, "code o 1\njones\nshow\nalexander = 7\nbracket");
    due("up to jones", x.run(16), 2);
    due("up to alexander", x.run(16), 2);
    due("kind", x.state(1), 16);
    due("one", x.run(1), 1);
  }

  private static void codes() { // promise 5: kind 1, and what is printed as a text again
    due("show", fresh("show"), "code\n");
    due("circles", fresh("code o 20\nshow"), "# ok\ncode o 20\n");
    due("no circles", fresh("code o 0\nshow"), "# ok\ncode\n");
    due("too many circles", fresh("code o 3\ncode o 21\nshow"), "# ok\n# no 0\ncode o 3\n");
    due("label 0", fresh("code +[0, 1, 1, 2]"), "# no 0\n");
    due("label 0 ahead of (1)", fresh("code +[1, 1, 1, 0] o 9999"), "# no 0\n");
    due("(1), least label", fresh("code +[7, 3, 3, 3] +[5, 7, 5, 5]"), "# no 1 3\n");
    due("(1), a label alone", fresh("code +[1, 1, 2, 9]"), "# no 1 2\n");
    due("(1) ahead of (2)", fresh("code +[1, 2, 1, 2] +[3, 3, 4, 5]"), "# no 1 4\n");
    due("(2)", fresh("code +[2, 1, 1, 2]"), "# no 2 1\n");
    due("(3)", fresh("code +[1, 2, 1, 2]"), "# no 3 0\n");
    due("(3), the second piece", fresh("code +[1, 1, 2, 2] +[3, 4, 3, 4]"), "# no 3 1\n");
    due("labels may be any", fresh("code -[9999, 70, 70, 9999] o 1\nshow"), "# ok\ncode -[9999, 70, 70, 9999] o 1\n");
    due("(3), two faces for four", fresh("code+[1,3,4,2]-[3,4,1,2]\nshow"), "# no 3 0\ncode\n");
  }

  private static void closures() { // promise 5: kind 2
    due("trefoil", shown(TREFOIL), "code +[1, 3, 4, 2] +[3, 5, 6, 4] +[5, 1, 2, 6]\n");
    due("below 0", shown("braid 2 -1 -1\n"), "code -[2, 1, 3, 4] -[4, 3, 1, 2]\n");
    due("free strands", shown("braid 4 -2\n"), "code -[3, 2, 2, 3] o 2\n");
    due("no letters", shown("braid 8\n"), "code o 8\n");
    due("no strands", fresh("braid 0"), "# no\n");
    due("nine strands", fresh("braid 9 1"), "# no\n");
    due("no letter 0", fresh("braid 3 1 0"), "# no\n");
    due("no letter 3", fresh("braid 3 1 -3"), "# no\n");
    due("20 letters", fresh("braid 2" + " 1".repeat(20)), "# ok\n");
    due("21 letters", fresh(HOPF + "braid 2" + " 1".repeat(21) + "\nshow"), "# ok\n# no\ncode +[1, 3, 4, 2] +[3, 1, 2, 4]\n");
  }

  private static void moves() { // promise 5: kinds 3 to 12
    due("twist a circle over +", shown("code o 1\ntwist 0 + over\n"), "code +[1, 1, 2, 2]\n");
    due("twist a circle under -", shown("code o 2\ntwist 0 - under\n"), "code -[2, 1, 1, 2] o 1\n");
    due("twist an edge over -", shown("code +[1, 1, 2, 2]\ntwist 2 - over\n"), "code +[1, 1, 2, 4] -[3, 2, 4, 3]\n");
    due("twist an edge under +", shown("code +[1, 1, 4, 4]\ntwist 1 + under\n"), "code +[3, 1, 4, 4] +[1, 3, 2, 2]\n");
    due("no circle", fresh("twist 0 + over"), "# no\n");
    due("no edge", fresh("code +[1, 1, 2, 2]\ntwist 3 + over"), "# ok\n# no\n");

    String pushed = "code +[4, 1, 2, 6] -[2, 1, 5, 3] +[5, 4, 6, 3]\n";
    due("push over", shown("code +[1, 1, 2, 2]\npush 1 over -2\n"), pushed);
    due("push under", shown("code +[1, 1, 2, 2]\npush 1 under -2\n"), "code +[4, 1, 2, 6] +[1, 5, 3, 2] -[3, 5, 4, 6]\n");
    due("push in no face", fresh("code +[1, 1, 2, 2]\npush 1 over 2"), "# ok\n# no\n");
    due("push on itself", fresh("code +[1, 1, 2, 2]\npush 1 over 1\npush -1 over 1"), "# ok\n# no\n# no\n");
    due("push of none", fresh("code +[1, 1, 2, 2]\npush 0 over 1\npush 1 under 3\npush -0 over 1"), "# ok\n# no\n# no\n# no\n");
    due("push of two pieces", fresh("code +[1, 1, 2, 2] +[3, 3, 4, 4]\npush 2 under 4\ncount"), "# ok\n# ok\n# 4 0 2 1 6 4 4 2 0\n");

    due("undo of two", fresh(pushed + "undo 3\nshow"), "# ok\n# undone 2\ncode +[1, 1, 2, 2]\n");
    due("undo at a clasp", fresh(pushed + "undo 4\nshow"), "# ok\n# no\n" + pushed);
    due("undo of one", fresh("code +[1, 1, 2, 2]\nundo 1\nshow"), "# ok\n# undone 1\ncode o 1\n");
    due("undo of one, other face", fresh("code +[3, 3, 2, 2]\nundo 2\nshow"), "# ok\n# undone 1\ncode o 1\n");
    due("undo at no loop", fresh("code +[1, 1, 2, 2]\nundo 0"), "# ok\n# no\n");
    due("undo at no face", fresh("code +[1, 1, 2, 2]\nundo 3"), "# ok\n# no\n");
    due("undo of two circles", fresh("braid 2 1 -1\nsimplify\nshow"), "# ok\n# undone 2\ncode o 2\n");
    due("simplify", fresh(pushed + "simplify\nshow\nsimplify"), "# ok\n# undone 3\ncode o 1\n# undone 0\n");
    due("a trefoil stays", fresh(TREFOIL + "simplify"), "# ok\n# undone 0\n");

    String slid = "code +[5, 2, 3, 4] +[1, 1, 5, 6] +[2, 6, 4, 3]\n";
    due("slide", shown("braid 3 1 2 1\nslide 4\n"), slid);
    due("no slide", fresh("braid 3 1 2 1\nslide 0\nslide 3\nslide 5"), "# ok\n# no\n# no\n# no\n");
    due("no slide, alternating", fresh("braid 3 1 -2 1 -2\nslide 0\nslide 1\nslide 2\nslide 3\nslide 4\nslide 5\n"), "# ok\n" + "# no\n".repeat(6));
    due("number", shown(slid + "number\n"), "code +[2, 5, 3, 6] +[1, 1, 2, 4] +[5, 4, 6, 3]\n");

    due("mirror", shown(HOPF + "mirror\n"), "code -[2, 1, 3, 4] -[4, 3, 1, 2]\n");
    due("reverse", shown(HOPF + "reverse 0\n"), "code -[4, 2, 1, 3] -[3, 1, 2, 4]\n");
    due("reverse a knot", shown("code -[2, 1, 1, 2]\nreverse 0\n"), "code -[1, 2, 2, 1]\n");
    due("reverse a circle", fresh("code +[1, 1, 2, 2] o 1\nreverse 1\nreverse 2\nshow"), "# ok\n# ok\n# no\ncode +[1, 1, 2, 2] o 1\n");
    due("change", shown(HOPF + "change 0\n"), "code -[2, 1, 3, 4] +[3, 1, 2, 4]\n");
    due("change twice", shown(HOPF + "change 1\nchange 1\n"), "code +[1, 3, 4, 2] +[3, 1, 2, 4]\n");
    due("change none", fresh(HOPF + "change 2\nsmooth 2"), "# ok\n# no\n# no\n");
    due("smooth", shown(HOPF + "smooth 0\n"), "code +[1, 1, 2, 2]\n");
    due("smooth to circles", shown(HOPF + "smooth 0\nsmooth 0\n"), "code o 2\n");
    due("on nothing", fresh("mirror\nnumber\nsimplify\nreverse 0\nchange 0\nundo 0\nslide 0"), "# ok\n# ok\n# undone 0\n# no\n# no\n# no\n# no\n");
  }

  private static void limitsOfMoves() { // promise 5: 20 crossings, 20 circles
    String full = "braid 2" + " 1".repeat(20) + "\n";
    due("21 crossings", fresh(full + "twist 1 + over\npush 1 over -2\ncount"), "# ok\n# no\n# no\n# 20 0 2 1 22 20 2 20 1\n");
    String nineteen = "braid 2" + " 1".repeat(19) + "\n";
    due("19 and 2", fresh(nineteen + "push 1 over -2\ntwist 1 + over\ntwist 1 + over"), "# ok\n# no\n# ok\n# no\n");
    String loop = "code +[1, 1, 2, 2] o ";
    due("20 circles", fresh(loop + "19\nundo 1\nshow"), "# ok\n# undone 1\ncode o 20\n");
    due("21 circles", fresh(loop + "20\nundo 1\nsimplify\nshow\nfaces"), "# ok\n# no\n# undone 0\n" + loop + "20\n# 3\n# 0 0 1 -2\n# 1 1 -1\n# 2 1 2\n");
    due("21 circles by smooth", fresh(loop + "19\nsmooth 0\nshow"), "# ok\n# no\n" + loop + "19\n");
    due("20 circles by smooth", fresh(loop + "18\nsmooth 0\nshow"), "# ok\n# ok\ncode o 20\n");
    due("another face can be", fresh("code +[1, 1, 2, 2] +[3, 3, 4, 5] +[6, 6, 5, 4] o 20\nsimplify\ncount"),
      "# ok\n# undone 1\n# 2 20 22 22 6 22 24 2 1\n");
  }

  private static void measures() { // promise 5: kinds 14 and 15
    due("count of nothing", fresh("count"), "# 0 0 0 0 0 0 0 0 1\n");
    due("count of circles", fresh("code o 3\ncount"), "# ok\n# 0 3 3 3 0 3 3 0 1\n");
    due("count of a trefoil", fresh(TREFOIL + "count"), "# ok\n# 3 0 1 1 5 3 2 3 1\n");
    due("count, one above the other", fresh("braid 3 1 -1\ncount"), "# ok\n# 2 1 3 2 4 4 3 0 0\n");
    due("no faces", fresh("code o 2\nfaces"), "# ok\n# 0\n");
    due("faces", fresh(TREFOIL + "faces"), "# ok\n# 5\n# 0 0 1 -2\n# 1 0 -1 -5 -3\n# 2 0 2 4 6\n# 3 0 3 -4\n# 4 0 5 -6\n");
    due("faces to slide and to undo", fresh("braid 3 1 2 1\nfaces"), "# ok\n# 5\n# 0 0 1 -2\n# 1 0 -1 -4\n# 2 0 2 5 -3 6\n# 3 1 3\n# 4 3 4 -6 -5\n");
  }

  private static void polynomials() { // promise 5: kinds 16 to 18, printed
    due("bracket of nothing", fresh("bracket"), "bracket = 1\n");
    due("jones of nothing", fresh("jones"), "jones = 1\n");
    due("alexander of nothing", fresh("alexander"), "alexander = 0\n");
    due("of a circle", fresh("code o 1\nbracket\njones\nalexander"), "# ok\nbracket = 1\njones = 1\nalexander = 1\n");
    due("of two circles", fresh("code o 2\nbracket\njones\nalexander"), "# ok\nbracket = -A^-2 - A^2\njones = -A^-2 - A^2\nalexander = 0\n");
    due("of three", fresh("code o 3\nbracket"), "# ok\nbracket = A^-4 + 2 + A^4\n");
    due("of a loop", fresh("code +[1, 1, 2, 2]\nbracket\njones\nalexander"), "# ok\nbracket = -A^3\njones = 1\nalexander = 1\n");
    due("of the other loop", fresh("code -[2, 1, 1, 2]\nbracket\njones"), "# ok\nbracket = -A^-3\njones = 1\n");
    due("trefoil", fresh(TREFOIL + "bracket\njones\nalexander"), "# ok\nbracket = A^-7 - A^-3 - A^5\njones = -A^-16 + A^-12 + A^-4\nalexander = 1 - t + t^2\n");
    due("the other trefoil", fresh("braid 2 -1 -1 -1\njones\nalexander"), "# ok\njones = A^4 + A^12 - A^16\nalexander = 1 - t + t^2\n");
    due("hopf", fresh(HOPF + "jones\nalexander"), "# ok\njones = -A^-10 - A^-2\nalexander = 1 - t\n");
    due("figure eight", fresh("braid 3 1 -2 1 -2\njones\nalexander"), "# ok\njones = A^-8 - A^-4 + 1 - A^4 + A^8\nalexander = 1 - 3t + t^2\n");
    due("a loop with a circle", fresh("code +[1, 1, 2, 2] o 1\nalexander\njones"), "# ok\nalexander = 0\njones = -A^-2 - A^2\n");
    due("one above the other", fresh("braid 2 1 -1\nalexander"), "# ok\nalexander = 0\n");
    due("many crossings", fresh("braid 2" + " 1".repeat(11) + "\nbracket\njones = 1\nalexander"), "# ok\n# many\n# many\n# many\n");
    due("ten", fresh("braid 2" + " 1".repeat(10) + "\nalexander"), "# ok\nalexander = 1 - t + t^2 - t^3 + t^4 - t^5 + t^6 - t^7 + t^8 - t^9\n");
    due("many circles", fresh("code o 10\njones"), "# ok\n# many\n");
    due("nine", fresh("code o 9\nbracket"), "# ok\nbracket = A^-16 + 8A^-12 + 28A^-8 + 56A^-4 + 70 + 56A^4 + 28A^8 + 8A^12 + A^16\n");
  }

  private static String says(String p) { return fresh("code o 1\njones = " + p).substring(5); }

  private static void equalities() { // promise 5: kinds 16 to 18 with P
    due("yes", fresh(TREFOIL + "jones = A^-4 + A^-12 - A^-16"), "# ok\n# yes\n");
    due("terms twice", fresh(TREFOIL + "alexander = 3t^2 - t - 2t^2 + 1 + 0t^9999"), "# ok\n# yes\n");
    due("no normal form", fresh(TREFOIL + "alexander = t - t^2 + t^3"), "# ok\n# no\n");
    due("not enough", fresh(TREFOIL + "alexander = 1 - t"), "# ok\n# no\n");
    due("more", fresh(TREFOIL + "alexander = 1 - t + t^2 + t^200"), "# ok\n# no\n");
    due("0", fresh("alexander = 0\nalexander = t - t\nalexander = 1"), "# yes\n# yes\n# no\n");
    due("1", says("1"), "# yes\n");
    due("A^0", says("A^0"), "# yes\n");
    due("A^-0", says("-2A^-0 + 3"), "# yes\n");
    due("A", says("A"), "# no\n");
    due("-1", says("-1"), "# no\n");
    due("far exponents", says("1 + A^9999 - A^-9999 - A^9999 + A^-9999"), "# yes\n");
    due("far exponents, not 0", says("1 + A^9999"), "# no\n");
    String most = "999999999999999999";
    due("beyond a long", says((most + " + ").repeat(31) + "1" + (" - " + most).repeat(31)), "# yes\n");
    due("2^64 + 1", says((most + " + ").repeat(18) + "446744073709551635"), "# no\n");
    due("1 - 2^64", says("1" + (" - " + most).repeat(18) + " - 446744073709551634"), "# no\n");
    due("1 - 2^64 + 2^64", says("1" + (" - " + most).repeat(18) + " - 446744073709551634" + (" + " + most).repeat(18) + " + 446744073709551634"), "# yes\n");
  }

  private static void state() { // promise 6
    LinkEngine x = new LinkEngine();
    Checks.read(x, "braid 4 1 1 -2\ncode o 2\nshow\n");
    due("lines", x.state(0), 3);
    due("kind", x.state(1), 2);
    x.run(1);
    due("lines", x.state(0), 2);
    due("kind", x.state(1), 1);
    due("crossings", x.state(2), 3);
    due("circles", x.state(3), 1);
    due("signs", x.state(4), 1);
    due("components", x.state(5), 3);
    due("printed", x.state(6), 5);
    due("tape", x.state(7), 0);
    x.feed(0, 0, 0, 0, 0);
    due("tape", x.state(7), 20);
    x.run(16);
    due("none", x.state(1), 0);
    due("components", x.state(5), 2);
    for (int w : new int[] {-1, 8, Integer.MIN_VALUE, Integer.MAX_VALUE}) due("state " + w, x.state(w), -1000);
  }

  private static void crossing() { // promise 7
    LinkEngine x = new LinkEngine();
    Checks.answer(x, "code +[1, 1, 20, 20] -[7, 6, 6, 7]\n");
    int[][] want = {{1, 1, 20, 20, 1}, {7, 6, 6, 7, -1}};
    for (int k = 0; k < 2; k++) for (int w = 0; w < 5; w++) due("crossing " + k + " " + w, x.crossing(k, w), want[k][w]);
    for (int w : new int[] {-1, 5, Integer.MIN_VALUE, Integer.MAX_VALUE}) due("what " + w, x.crossing(0, w), 0);
    for (int k : new int[] {-1, 2, 20, Integer.MIN_VALUE, Integer.MAX_VALUE}) due("crossing " + k, x.crossing(k, 4), 0);
  }

  private static void printedAndWipe() { // promises 8 and 9
    LinkEngine x = new LinkEngine();
    Checks.read(x, "code o 1\nshow\n");
    x.run(16);
    String want = "# ok\ncode o 1\n";
    for (int i = 0; i < want.length(); i++) due("byte " + i, x.printed(i), (int) want.charAt(i));
    for (int i : new int[] {-1, want.length(), Integer.MIN_VALUE, Integer.MAX_VALUE}) due("byte " + i, x.printed(i), -1);
    x.feed(0x78787878, 0x78787878, 0x78787878, 0x78787878, 0x78787878);
    due("wipe", x.wipe(true), 14);
    due("nothing", x.printed(0), -1);
    due("on the tape", x.state(7), 14);
    due("a text again", x.read(14), 1);
    x.feed(0, 0, 0, 0, 0);
    due("wipe nothing, leave the tape", x.wipe(false) * 100 + x.state(7), 20);
    due("wipe nothing, clear the tape", x.wipe(true) * 100 + x.state(7), 0);
    due("the line still waits", x.state(0), 1);
    x.run(1);
    due("wipe without tape", x.wipe(false) * 100 + x.state(7), 500);
  }

  private static String form(LinkEngine x, boolean before, int strands) {
    StringBuilder s = new StringBuilder().append(x.form(before, 0, -77)).append(':');
    for (int j = 1; j <= x.length(before); j++) {
      s.append(' ');
      for (int p = 1; p <= strands; p++) s.append(x.form(before, j, p));
    }
    return s.toString();
  }

  private static void forms() { // promises 10, 11 and 12
    LinkEngine x = new LinkEngine();
    Checks.answer(x, "braid 3 1 2 1\n");
    due("one strand and three", x.same(), false);
    due("turn", form(x, false, 3), "1:");
    Checks.answer(x, "braid 3 2 1 2\n");
    due("one braid", x.same(), true);
    Checks.answer(x, "braid 3 -1\n");
    due("another", x.same(), false);
    due("inverse", form(x, false, 3), "-1: 312");
    due("the one before", form(x, true, 3), "1:");
    Checks.answer(x, "braid 3 1 1 2\n");
    due("two", form(x, false, 3), "0: 213 312");
    due("before", form(x, true, 3), "-1: 312");
    for (int[] jp : new int[][] {{-1, 1}, {3, 1}, {1, 0}, {1, 4}, {2, -1}, {Integer.MAX_VALUE, 1}, {Integer.MIN_VALUE, 1}, {1, Integer.MAX_VALUE}, {1, Integer.MIN_VALUE}})
      due("none such " + jp[0] + " " + jp[1], x.form(false, jp[0], jp[1]), 0);
    due("length", x.length(false) * 10 + x.length(true), 21);
    Checks.answer(x, "braid 9 1\ncode o 1\nmirror\nbraid 3 3\n");
    due("what is refused, or no braid, is not counted", form(x, false, 3) + form(x, true, 3), "0: 213 312-1: 312");
    Checks.answer(x, "braid 2 1 1 -1 -1 -1\nbraid 3 1 1 -1 -1 -1\n");
    due("as many strands", x.same(), false);
    due("two strands", form(x, true, 2), "-1:");
    Checks.answer(x, "braid 4 1 -1 3 -3\nbraid 4\n");
    due("none", x.same(), true);
    due("form of none", form(x, false, 4) + form(x, true, 4), "0:0:");
    Checks.answer(x, "braid 4 1 3\nbraid 4 3 1\n");
    due("far letters", x.same(), true);
    due("their form", form(x, false, 4), "0: 2143");
  }
}
