/** Part II of the document: what is a diagram, which condition is named, faces, components, arcs, at their boundaries. */
public final class DiagramEdgeTest {
  public static void main(String[] args) {
    labels();
    circles();
    everyLabelAtTwoPlaces();
    oneGoesInTheOtherOut();
    everyPieceOnASphere();
    theFirstOfThree();
    whatIsNoDiagramChangesNothing();
    twentyCrossings();
    nextDartsGoAroundModuloFour();
    facesByTheirLeastDarts();
    componentsByTheirLeastLabels();
    arcs();
    alternating();
    seifert();
    emptyDiagrams();
    Checks.end();
  }

  private static void says(String text, String want) {
    Session x = new Session("<" + text + ">");
    x.due("answers", x.says(text), want);
  }

  /** A code that is a diagram, and shown as it was. */
  private static void good(String code) { says(code + "\nshow", "# ok\n" + code + "\n"); }

  private static void bad(String code, String numbers) { says(code, "# no " + numbers + "\n"); }

  /** "A LABEL is a number 1 .. 9999." "# no 0 when a label is 0" */
  private static void labels() {
    good("code +[1, 1, 9999, 9999]");
    bad("code +[0, 1, 1, 0]", "0");
    bad("code +[0, 0, 9999, 9999]", "0");
    for (int place = 0; place < 4; place++) {
      int[] l = {1, 1, 2, 2};
      l[place] = 0;
      bad("code +[" + l[0] + ", " + l[1] + ", " + l[2] + ", " + l[3] + "]", "0");
      bad("code +[7, 7, 8, 8] -[" + l[0] + ", " + l[1] + ", " + l[2] + ", " + l[3] + "] o 3", "0");
    }
  }

  /** "or there are more than 20 circles" */
  private static void circles() {
    says("code o 20\nshow", "# ok\ncode o 20\n");
    bad("code o 21", "0");
    bad("code o 9999", "0");
    good("code +[1, 1, 2, 2] o 20");
    bad("code +[1, 1, 2, 2] o 21", "0");
    bad("code +[1, 1, 1, 2] o 21", "0");
    bad("code +[1, 1, 1, 2] o 20", "1 1");
  }

  /** "(1) every label there is stands at two places"; "the least label that is not at two places" */
  private static void everyLabelAtTwoPlaces() {
    bad("code +[1, 2, 3, 4]", "1 1");
    bad("code +[9, 9, 8, 7]", "1 7");
    bad("code +[5, 5, 5, 6]", "1 5");
    bad("code +[5, 5, 5, 5]", "1 5");
    bad("code +[6, 5, 5, 5]", "1 5");
    bad("code +[4, 5, 5, 5]", "1 4");
    bad("code +[1, 1, 2, 2] +[1, 1, 3, 3]", "1 1");
    bad("code +[1, 1, 2, 2] +[2, 4, 3, 3]", "1 2");
    bad("code +[1, 1, 2, 2] +[4, 9999, 3, 3]", "1 4");
    bad("code +[1, 1, 2, 2] +[9999, 9998, 3, 3]", "1 9998");
    bad("code +[1, 1, 2, 2] +[3, 3, 3, 9999]", "1 3");
    bad("code +[1, 1, 2, 9999]", "1 2");
    bad("code +[1, 1, 9999, 9999] +[2, 2, 9999, 3]", "1 3");
    bad("code +[1, 1, 9999, 9999] +[2, 2, 9999, 9999]", "1 9999");
  }

  /** "(2) one of them is where a strand goes in, the other one where one goes out"; "both of whose places are ends of the same kind" */
  private static void oneGoesInTheOtherOut() {
    // With the sign 1 strands go in at 0 and 3, out at 1 and 2; with -1 in at 0 and 1, out at 2 and 3.
    good("code +[1, 1, 2, 2]");
    good("code +[2, 2, 1, 1]");
    bad("code +[1, 2, 2, 1]", "2 1");
    bad("code +[3, 2, 2, 3]", "2 2");
    bad("code -[1, 1, 2, 2]", "2 1");
    bad("code -[4, 4, 2, 2]", "2 2");
    good("code -[1, 2, 2, 1]");
    good("code -[2, 1, 1, 2]");
    // Two crossings: only the second one's labels are wrong.
    bad("code +[9, 9, 8, 8] +[7, 6, 6, 7]", "2 6");
    bad("code +[1, 1, 2, 2] +[7, 8, 8, 7]", "2 7");
    bad("code +[1, 3, 2, 2] +[1, 3, 4, 4]", "2 1");
    bad("code +[5, 3, 2, 2] +[5, 3, 4, 4]", "2 3");
    good("code +[1, 3, 2, 2] +[3, 1, 4, 4]");
  }

  /** "(3) every PIECE .. lies on a sphere: it has two FACES more than crossings"; "the least crossing of a piece that is on no sphere" */
  private static void everyPieceOnASphere() {
    bad("code +[1, 2, 1, 2]", "3 0");
    bad("code -[1, 2, 1, 2]", "3 0");
    bad("code +[1, 1, 2, 2] +[3, 4, 3, 4]", "3 1");
    bad("code +[3, 4, 3, 4] +[1, 1, 2, 2]", "3 0");
    bad("code +[1, 1, 2, 2] +[7, 8, 7, 8] -[3, 4, 3, 4]", "3 1");
    bad("code +[1, 1, 2, 2] -[3, 4, 4, 3] +[7, 8, 7, 8]", "3 2");
    // A piece of the crossings 1 and 3: two faces for two crossings.
    bad("code +[11, 11, 12, 12] +[1, 3, 4, 2] -[15, 16, 16, 15] -[3, 4, 1, 2]", "3 1");
    good("code +[11, 11, 12, 12] +[1, 3, 4, 2] -[15, 16, 16, 15] +[3, 1, 2, 4]");
    // Two faces too few in one piece are not made up by another piece: each has its own count.
    bad("code +[1, 2, 1, 2] +[3, 3, 4, 4] +[5, 5, 6, 6]", "3 0");
  }

  /** "the first of (1), (2), (3) of Part II that is not so", and a label 0 ahead of them */
  private static void theFirstOfThree() {
    bad("code +[1, 2, 1, 2] +[6, 5, 5, 6] +[7, 7, 8, 9]", "1 8");
    bad("code +[1, 2, 1, 2] +[6, 5, 5, 6] +[7, 7, 8, 8]", "2 5");
    bad("code +[1, 2, 1, 2] +[5, 5, 6, 6] +[7, 7, 8, 8]", "3 0");
    bad("code +[1, 2, 1, 2] +[6, 5, 5, 6] +[7, 7, 8, 0]", "0");
    bad("code +[1, 2, 2, 1] +[9, 9, 9, 8]", "1 8");
    bad("code +[1, 1, 1, 2] +[3, 4, 4, 3]", "1 1");
  }

  /** "# ok, and its crossings with its circles are the DIAGRAM; if they are not: # no .." - and the DIAGRAM is what it was */
  private static void whatIsNoDiagramChangesNothing() {
    Session x = new Session("no diagram");
    x.due("ok", x.says("code -[4, 3, 3, 4] +[1, 1, 2, 2] o 5"), "# ok\n");
    String before = x.all();
    for (String code : new String[] {"code o 21", "code +[0, 0, 1, 1]", "code +[1, 1, 1, 1]", "code +[1, 2, 2, 1]", "code +[1, 2, 1, 2]"}) {
      x.due(code, x.says(code).startsWith("# no "), true);
      x.due("behind " + code, x.all(), before);
    }
    x.due("shown", x.says("show"), "code -[4, 3, 3, 4] +[1, 1, 2, 2] o 5\n");
    x.due("nothing", x.says("code"), "# ok\n");
    x.due("crossings", x.state(2), 0);
    x.due("circles", x.state(3), 0);
    x.due("no crossing", x.crossing(0, 4), 0);
  }

  private static String loops(int n) {
    StringBuilder s = new StringBuilder("code");
    for (int k = 0; k < n; k++) {
      int a = 2 * k + 1;
      s.append(" +[" + a + ", " + a + ", " + (a + 1) + ", " + (a + 1) + "]");
    }
    return s.toString();
  }

  /** All of the most crossings, pieces, faces and circles that there are. */
  private static void twentyCrossings() {
    says(loops(20) + " o 20\ncount", "# ok\n# 20 20 40 40 60 40 60 20 1\n");
    says(loops(20) + "\nmirror\ncount", "# ok\n# ok\n# 20 0 20 20 60 20 40 -20 1\n");
    Session x = new Session("twenty");
    x.text(loops(20) + " o 20");
    x.run(1);
    x.due("components", x.state(5), 40);
    x.due("signs", x.state(4), 20);
    for (int w = 0; w <= 4; w++) x.due("crossing 19, " + w, x.crossing(19, w), w == 4 ? 1 : w < 2 ? 39 : 40);
    x.due("crossing 20", x.crossing(20, 0), 0);
  }

  /** "from the place where it arrives, which is q, the next one leaves by the place q - 1 (modulo 4) of that crossing": q is 0, 1, 2, 3 */
  private static void nextDartsGoAroundModuloFour() {
    says("code +[1, 1, 2, 2]\nfaces", "# ok\n# 3\n# 0 0 1 -2\n# 1 1 -1\n# 2 1 2\n");
    says("code +[2, 2, 1, 1]\nfaces", "# ok\n# 3\n# 0 1 1\n# 1 0 -1 2\n# 2 1 -2\n");
    says("code -[1, 2, 2, 1]\nfaces", "# ok\n# 3\n# 0 1 1\n# 1 0 -1 2\n# 2 1 -2\n");
    says("code -[2, 1, 1, 2]\nfaces", "# ok\n# 3\n# 0 0 1 -2\n# 1 1 -1\n# 2 1 2\n");
  }

  /** "faces by their least darts: darts are ordered by the label, along before against" */
  private static void facesByTheirLeastDarts() {
    says("code +[9999, 9999, 70, 70] +[1, 1, 200, 200]\nfaces",
      "# ok\n# 6\n# 0 0 1 -200\n# 1 1 -1\n# 2 1 70\n# 3 0 -70 9999\n# 4 1 200\n# 5 1 -9999\n");
    says("faces", "# 0\n");
    says("code o 20\nfaces", "# ok\n# 0\n");
  }

  /** "Those with edges are numbered from 0 on by their least labels, circles behind them." */
  private static void componentsByTheirLeastLabels() {
    String code = "code +[30, 30, 40, 40] +[1, 1, 20, 20] o 2\n";
    says(code + "reverse 0\nshow", "# ok\n# ok\ncode +[30, 30, 40, 40] +[20, 20, 1, 1] o 2\n");
    says(code + "reverse 1\nshow", "# ok\n# ok\ncode +[40, 40, 30, 30] +[1, 1, 20, 20] o 2\n");
    says(code + "reverse 2\nreverse 3\nreverse 4\nshow", "# ok\n# ok\n# ok\n# no\n" + code);
  }

  /** "as long as it goes (all edges of a component that goes over upper places alone are one), or a circle" */
  private static void arcs() {
    says("braid 2 1 1 1\ncount", "# ok\n# 3 0 1 1 5 3 2 3 1\n");
    says("braid 2 1 -1\ncount", "# ok\n# 2 0 2 1 4 3 2 0 0\n");
    says("braid 2 -1 1\ncount", "# ok\n# 2 0 2 1 4 3 2 0 0\n");
    says("braid 2 1 1\ncount", "# ok\n# 2 0 2 1 4 2 2 2 1\n");
    says("code +[1, 1, 2, 2] o 1\ncount", "# ok\n# 1 1 2 2 3 2 3 1 1\n");
    // One strand above two others, which cross below it.
    says("braid 3 -1 -2 -1 1 2 1\ncount", "# ok\n# 6 0 3 1 8 7 3 0 0\n");
  }

  /** "each edge comes from an upper place and goes to a lower one, or the other way round"; "(without crossings it is)" */
  private static void alternating() {
    says("count\ncode o 1\ncount", "# 0 0 0 0 0 0 0 0 1\n# ok\n# 0 1 1 1 0 1 1 0 1\n");
    says("code +[1, 1, 2, 2]\ncount", "# ok\n# 1 0 1 1 3 1 2 1 1\n");
    says("braid 2 1 1 1\nchange 0\ncount", "# ok\n# ok\n# 3 0 1 1 5 3 2 1 0\n");
    says("braid 3 1 -2\ncount\nchange 1\ncount", "# ok\n# 2 0 1 1 4 2 3 0 1\n# ok\n# 2 0 1 1 4 2 3 2 0\n");
    // One piece of two that is not.
    says("code +[21, 21, 22, 22] +[1, 3, 4, 2] -[4, 3, 1, 2]\ncount", "# ok\n# 3 0 3 2 7 4 4 1 0\n");
  }

  /** "these rounds, and the circles" */
  private static void seifert() {
    says("code o 7\ncount", "# ok\n# 0 7 7 7 0 7 7 0 1\n");
    says("braid 8 1 2 3 4 5 6 7\ncount", "# ok\n# 7 0 1 1 9 7 8 7 0\n");
    says("braid 8 1 7\ncount", "# ok\n# 2 4 6 6 6 6 8 2 1\n");
  }

  /** "at first one without crossings and circles" */
  private static void emptyDiagrams() {
    says("show\ncount\nfaces\nnumber\nmirror\nsimplify\nshow", "code\n# 0 0 0 0 0 0 0 0 1\n# 0\n# ok\n# ok\n# undone 0\ncode\n");
    says("undo 0\nslide 0\ntwist 0 + over\ntwist 1 + over\npush 1 over 2\nreverse 0\nchange 0\nsmooth 0\nshow", "# no\n".repeat(8) + "code\n");
    says("code o 1\nundo 0\nslide 0\ntwist 1 + over\npush 0 over 0\nreverse 1\nchange 0\nsmooth 0\nshow", "# ok\n" + "# no\n".repeat(7) + "code o 1\n");
  }
}
