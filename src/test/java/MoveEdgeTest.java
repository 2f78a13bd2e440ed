/** Part III of the document: what can't be moved, just at the boundary and beyond it; a refused move changes nothing. */
public final class MoveEdgeTest {
  private static final String LOOP = "code +[1, 1, 2, 2]";
  private static final String HOPF = "code +[1, 3, 4, 2] +[3, 1, 2, 4]";
  private static final String APART = "code +[1, 3, 4, 2] -[4, 3, 1, 2]";
  private static final String TREFOIL = "code +[1, 3, 4, 2] +[3, 5, 6, 4] +[5, 1, 2, 6]";

  public static void main(String[] args) {
    liftJoinsLabels();
    undoOfOneDart();
    undoOfTwoDarts();
    undoAndCircles();
    simplifyAsLongAsThereIsAFace();
    slideAtThreeCrossings();
    twistNeedsAnEdgeOrACircle();
    twistLeavesTwentyCrossings();
    freeLabels();
    pushOfAnotherEdge();
    pushInOneFaceOrOfTwoPieces();
    pushLeavesTwentyCrossings();
    changeACrossing();
    reverseAComponent();
    smoothACrossing();
    smoothAndCircles();
    numberFromTheLeastLabelOn();
    facesWhateverCirclesWouldBeLeft();
    whatWasThereEarlierIsNotThere();
    Checks.end();
  }

  private static void says(String text, String want) {
    Session x = new Session("<" + text + ">");
    x.due("answers", x.says(text), want);
  }

  /** A move that is done: what it answers, and what is shown then. */
  private static void moves(String code, String move, String answer, String shown) { says(code + "\n" + move + "\nshow", "# ok\n" + answer + "\n" + shown + "\n"); }

  private static void moves(String code, String move, String shown) { moves(code, move, "# ok", shown); }

  /** A move that can't be done: # no, and whatever can be asked for is as it was. */
  private static void stays(String code, String move) {
    Session x = new Session("<" + code + "\n" + move + ">");
    x.due("set up", x.says(code), "# ok\n");
    String before = x.all();
    x.due("answers", x.says(move), "# no\n");
    x.due("behind it", x.all(), before);
    x.due("shown", x.says("show"), code + "\n");
  }

  /** "two that become one have the lesser label; one with itself is a circle more" */
  private static void liftJoinsLabels() {
    moves("code +[1, 9, 4, 2] +[6, 1, 2, 4] +[5, 5, 6, 9]", "undo 4", "# undone 1", "code +[1, 5, 4, 2] +[5, 1, 2, 4]");
    moves("code +[1, 3, 4, 2] +[6, 1, 2, 4] +[5, 5, 6, 3]", "undo 4", "# undone 1", HOPF);
    moves(LOOP, "undo 1", "# undone 1", "code o 1");
    moves(APART, "undo 0", "# undone 2", "code o 2");
    // Crossings that go may stand ahead of others.
    moves("code +[1, 1, 2, 2] +[3, 3, 4, 4] +[5, 5, 6, 6]", "undo 4", "# undone 1", "code +[1, 1, 2, 2] +[5, 5, 6, 6] o 1");
    moves("code +[1, 4, 5, 2] -[5, 4, 1, 7] +[7, 2, 3, 3]", "undo 1", "# undone 2", "code +[2, 2, 3, 3] o 1");
    moves("code +[1, 4, 5, 2] -[5, 4, 1, 7] +[7, 2, 3, 3]", "undo 4", "# undone 2", "code +[2, 2, 3, 3] o 1");
    moves("code +[4, 1, 5, 2] -[5, 1, 4, 7] +[7, 2, 3, 3]", "undo 1", "# undone 2", "code +[1, 1, 3, 3] o 1");
    moves("code +[7, 7, 8, 8] " + APART.substring(5), "undo 0", "# undone 2", "code +[7, 7, 8, 8] o 2");
  }

  /** "of one dart: the crossing there is lifted" - at a face that is there */
  private static void undoOfOneDart() {
    stays(LOOP, "undo 0");
    moves(LOOP, "undo 1", "# undone 1", "code o 1");
    moves(LOOP, "undo 2", "# undone 1", "code o 1");
    stays(LOOP, "undo 3");
    stays(LOOP, "undo 9999");
    stays("code o 3", "undo 0");
    stays("code", "undo 0");
  }

  /** "Of two darts, at two crossings, one of whose edges is upper at both and the other one lower at both" */
  private static void undoOfTwoDarts() {
    for (int face = 0; face < 4; face++) {
      moves(APART, "undo " + face, "# undone 2", "code o 2");
      stays(HOPF, "undo " + face);
    }
    stays(APART, "undo 4");
    for (int face = 0; face <= 5; face++) stays(TREFOIL, "undo " + face);
    // Two darts, both at the one crossing.
    stays("code -[2, 1, 1, 2]", "undo 0");
    // "both are lifted, first the one that was put in first": face 2 is that of 2 and 4.
    moves("code +[1, 1, 2, 4] -[2, 3, 3, 4]", "undo 2", "# undone 2", "code o 1");
    // Of three darts none is undone, though the edges be upper, lower and both.
    stays("code +[1, 4, 5, 2] +[5, 6, 3, 3] +[4, 1, 2, 6]", "undo 4");
  }

  /** "What would leave .. more than 20 circles can't be done" */
  private static void undoAndCircles() {
    moves(LOOP + " o 19", "undo 1", "# undone 1", "code o 20");
    stays(LOOP + " o 20", "undo 1");
    stays(LOOP + " o 20", "undo 2");
    moves(APART + " o 18", "undo 3", "# undone 2", "code o 20");
    stays(APART + " o 19", "undo 3");
    stays(APART + " o 20", "undo 3");
    moves("code +[1, 1, 2, 4] -[2, 3, 3, 4] o 19", "undo 2", "# undone 2", "code o 20");
    stays("code +[1, 1, 2, 4] -[2, 3, 3, 4] o 20", "undo 2");
    // One that leaves no circle is done with 20 of them, too.
    moves("code +[1, 1, 2, 4] -[2, 3, 3, 4] o 20", "undo 1", "# undone 1", "code -[1, 3, 3, 1] o 20");
  }

  /** "UNDO at the least face where that can be, as long as there is one: likewise, all crossings together (maybe 0)"; "(a face where UNDO would is none where it can be)" */
  private static void simplifyAsLongAsThereIsAFace() {
    moves("code", "simplify", "# undone 0", "code");
    moves("code o 20", "simplify", "# undone 0", "code o 20");
    moves(TREFOIL, "simplify", "# undone 0", TREFOIL);
    moves(LOOP + " o 19", "simplify", "# undone 1", "code o 20");
    moves(LOOP + " o 20", "simplify", "# undone 0", LOOP + " o 20");
    moves(APART + " o 18", "simplify", "# undone 2", "code o 20");
    moves(APART + " o 19", "simplify", "# undone 0", APART + " o 19");
    moves(LOOP + " +[3, 3, 4, 4] o 18", "simplify", "# undone 2", "code o 20");
    moves(LOOP + " +[3, 3, 4, 4] o 19", "simplify", "# undone 1", "code +[3, 3, 4, 4] o 20");
    moves("code +[3, 3, 4, 4] +[1, 1, 2, 2] o 19", "simplify", "# undone 1", "code +[3, 3, 4, 4] o 20");
    // The least face of all is the only one where that can be.
    moves("code +[5, 3, 4, 2] +[6, 5, 2, 4] +[3, 6, 1, 1]", "simplify", "# undone 1", "code +[5, 1, 4, 2] +[1, 5, 2, 4]");
    // The lone loop has the least face and would be a circle too many; the other crossings go.
    moves(LOOP + " +[3, 3, 4, 6] -[4, 5, 5, 6] o 20", "simplify", "# undone 1", LOOP + " -[3, 5, 5, 3] o 20");
    StringBuilder most = new StringBuilder("code");
    for (int a = 1; a < 40; a += 2) most.append(" -[" + a + ", " + (a + 1) + ", " + (a + 1) + ", " + a + "]");
    moves(most.toString(), "simplify", "# undone 20", "code o 20");
    moves(most + " o 1", "simplify", "# undone 19", "code -[39, 40, 40, 39] o 20");
    says("braid 2" + " 1".repeat(10) + " -1".repeat(10) + "\nsimplify\nshow", "# ok\n# undone 20\ncode o 2\n");
  }

  /** "SLIDE, at a face of three darts at three crossings, one of whose edges is upper at both its ends, one lower at both, one upper at one end alone" */
  private static void slideAtThreeCrossings() {
    String three = "code +[1, 4, 5, 2] +[5, 6, 3, 3] +[4, 1, 2, 6]";
    String slid = "code +[5, 2, 3, 4] +[1, 1, 5, 6] +[2, 6, 4, 3]";
    moves(three, "slide 4", slid);
    for (int face : new int[] {0, 1, 2, 3, 5, 9999}) stays(three, "slide " + face);
    moves("code +[4, 1, 5, 2] +[5, 6, 3, 3] +[1, 4, 2, 6]", "slide 0", "code +[5, 2, 3, 1] +[4, 4, 5, 6] +[2, 6, 1, 3]");
    moves("code +[7, 7, 8, 8] " + three.substring(5), "slide 4", "code +[7, 7, 8, 8] " + slid.substring(5));
    // Four darts at four crossings, edges upper, lower, both and both.
    String four = "code +[1, 5, 6, 2] +[5, 7, 8, 6] +[7, 9, 10, 8] +[10, 11, 3, 3] -[11, 9, 1, 2] o 1";
    says(four + "\nfaces", "# ok\n# 7\n# 0 2 1 -2\n# 1 0 -1 -9 -7 -5\n# 2 0 2 6 8 10 -3 11\n# 3 1 3\n# 4 0 5 -6\n# 5 0 7 -8\n# 6 3 9 -11 -10\n");
    stays(four, "slide 1");
    stays(four, "undo 1");
    // The same face once more, with its darts turned: all is as it was.
    says(three + "\nslide 4\nfaces", "# ok\n# ok\n# 5\n# 0 0 1 -6 -2 -5\n# 1 1 -1\n# 2 0 2 -3\n# 3 0 3 4\n# 4 3 -4 6 5\n");
    moves(slid, "slide 4", three);
    // "all at once for the three edges": 5 is behind one of them and ahead of another one, 1 ahead of one and behind it.
    moves("code +[1, 9, 4, 2] +[6, 1, 2, 4] +[5, 5, 6, 9]", "slide 3", "code +[4, 5, 1, 9] +[5, 4, 6, 1] +[6, 9, 2, 2]");
    // Three darts, edges upper, lower and both - but at two crossings.
    says("code +[1, 1, 2, 4] +[2, 4, 3, 3]\nfaces", "# ok\n# 4\n# 0 0 1 -4 -2\n# 1 1 -1\n# 2 0 2 -3 4\n# 3 1 3\n");
    stays("code +[1, 1, 2, 4] +[2, 4, 3, 3]", "slide 0");
    // Three crossings, each edge upper at one end alone.
    stays(TREFOIL, "slide 1");
    stays(TREFOIL, "slide 2");
    // Two darts and one dart.
    stays(APART, "slide 0");
    stays(LOOP, "slide 1");
    stays("code", "slide 0");
  }

  /** "TWIST the edge (0: a circle)"; "it is a circle no more" */
  private static void twistNeedsAnEdgeOrACircle() {
    stays("code", "twist 0 + over");
    moves("code o 1", "twist 0 + over", LOOP);
    moves("code o 20", "twist 0 - over", "code -[1, 2, 2, 1] o 19");
    stays(LOOP, "twist 0 + over");
    stays(LOOP, "twist 3 + over");
    stays(LOOP, "twist 9999 - under");
    moves(LOOP, "twist 2 - over", "code +[1, 1, 2, 4] -[3, 2, 4, 3]");
    moves("code +[9999, 9999, 1, 1]", "twist 9999 + under", "code +[3, 9999, 1, 1] +[9999, 3, 2, 2]");
    says("code o 1\ntwist 0 + over\ntwist 0 + over\nshow", "# ok\n# ok\n# no\n" + LOOP + "\n");
  }

  private static String row(int letters) { return "braid 2" + " 1".repeat(letters) + "\n"; }

  /** "What would leave more than 20 crossings .. can't be done" */
  private static void twistLeavesTwentyCrossings() {
    says(row(19) + "twist 1 + over\ncount\ntwist 1 + over\ncount", "# ok\n# ok\n# 20 0 1 1 22 20 3 20 0\n# no\n# 20 0 1 1 22 20 3 20 0\n");
    says(row(20) + "twist 2 - under\ncount", "# ok\n# no\n# 20 0 2 1 22 20 2 20 1\n");
    Session x = new Session("a circle and 20 crossings");
    x.due("set up", x.says("braid 3" + " 1".repeat(20)), "# ok\n");
    String before = x.all();
    x.due("answer", x.says("twist 0 + over"), "# no\n");
    x.due("behind it", x.all(), before);
    x.due("circles", x.state(3), 1);
    x.due("one less", x.says("braid 3" + " 1".repeat(19) + "\ntwist 0 + over"), "# ok\n# ok\n");
    x.due("crossings", x.state(2), 20);
    x.due("circles", x.state(3), 0);
  }

  /** "FREE labels are the least ones that no edge has, in order." */
  private static void freeLabels() {
    moves("code +[2, 2, 4, 4]", "twist 2 + over", "code +[3, 2, 4, 4] +[1, 1, 3, 2]");
    moves("code +[1, 1, 3, 3]", "twist 1 + over", "code +[4, 1, 3, 3] +[2, 2, 4, 1]");
    moves("code +[3, 3, 4, 4] o 1", "twist 0 + over", "code +[3, 3, 4, 4] +[1, 1, 2, 2]");
    moves("code +[9998, 9998, 9999, 9999]", "twist 9999 + over", "code +[9998, 9998, 9999, 2] +[1, 1, 2, 9999]");
    moves("code +[3, 3, 6, 6]", "push 3 over -6", "code +[2, 3, 6, 5] -[6, 3, 4, 1] +[4, 2, 5, 1]");
    // All labels up to 38 are there: the closure's last two stand for the first two.
    Session x = new Session("19 crossings");
    x.due("set up", x.says(row(19) + "number\ntwist 38 + over"), "# ok\n# ok\n# ok\n");
    x.due("the crossing's labels", "" + x.crossing(19, 0) + " " + x.crossing(19, 1) + " " + x.crossing(19, 2) + " " + x.crossing(19, 3), "39 39 40 38");
    Session z = new Session("signs of a push");
    z.due("set up", z.says(LOOP + "\npush 1 under -2"), "# ok\n# ok\n");
    z.due("signs", z.crossing(0, 4) + " " + z.crossing(1, 4) + " " + z.crossing(2, 4), "1 1 -1");
    Session y = new Session("18 crossings");
    y.due("set up", y.says(row(18) + "number\npush 1 over -20"), "# ok\n# ok\n# no\n");
    y.due("faces have it", y.says("push 1 over -19"), "# ok\n");
    y.due("M", "" + y.crossing(18, 0) + " " + y.crossing(18, 1) + " " + y.crossing(18, 2) + " " + y.crossing(18, 3) + " " + y.crossing(18, 4), "19 1 39 37 -1");
    y.due("N", "" + y.crossing(19, 0) + " " + y.crossing(19, 1) + " " + y.crossing(19, 2) + " " + y.crossing(19, 3) + " " + y.crossing(19, 4), "39 38 40 37 1");
  }

  /** "PUSH a dart x over (or below) a dart y of another edge" - for edges that are there */
  private static void pushOfAnotherEdge() {
    for (String move : new String[] {"push 1 over 1", "push 1 under -1", "push -1 over 1", "push -1 over -1"}) stays(LOOP, move);
    for (String move : new String[] {"push 0 over 1", "push -0 over 1", "push 1 over 0", "push 1 over -0", "push 3 over 1", "push 1 under 3", "push 1 under -3", "push -9999 over 1"})
      stays(LOOP, move);
    stays("code o 2", "push 1 over 2");
    stays("code o 2", "push 0 over 0");
    stays("code", "push 1 over 1");
  }

  /** "both darts are of one face, or of two pieces" */
  private static void pushInOneFaceOrOfTwoPieces() {
    // The faces are 1 -2; -1; 2.
    String pushed = "code +[4, 1, 2, 6] -[2, 1, 5, 3] +[5, 4, 6, 3]";
    moves(LOOP, "push 1 over -2", pushed);
    moves(LOOP, "push -2 under 1", "code +[6, 1, 2, 4] +[3, 6, 4, 5] -[2, 1, 3, 5]");
    for (String move : new String[] {"push 1 over 2", "push -1 over 2", "push -1 over -2", "push 2 under 1", "push 2 over -1", "push -2 over -1"}) stays(LOOP, move);
    // With two pieces each dart of one meets each of the other.
    String two = LOOP + " +[3, 3, 4, 4]\n";
    for (int x : new int[] {1, -1, 2, -2})
      for (int y : new int[] {3, -3, 4, -4}) {
        says(two + "push " + x + " over " + y + "\ncount", "# ok\n# ok\n# 4 0 2 1 6 4 4 2 0\n");
        says(two + "push " + y + " under " + x + "\nsimplify\ncount", "# ok\n# ok\n# undone 4\n# 0 2 2 2 0 2 2 0 1\n");
      }
    // Joined by the push, they are one piece: darts of two of its faces do not meet.
    says(two + "push 1 over 3\npush 2 over 4\npush -2 over 4", "# ok\n# ok\n# no\n# no\n");
  }

  /** "What would leave more than 20 crossings" */
  private static void pushLeavesTwentyCrossings() {
    says(row(18) + "push 1 over -2\ncount", "# ok\n# ok\n# 20 0 2 1 22 20 2 18 0\n");
    says(row(19) + "push 1 over -2\ncount", "# ok\n# no\n# 19 0 1 1 21 19 2 19 1\n");
    says(row(20) + "push 1 over -2\ncount", "# ok\n# no\n# 20 0 2 1 22 20 2 20 1\n");
    Session x = new Session("19 crossings");
    x.due("set up", x.says(row(19)), "# ok\n");
    String before = x.all();
    x.due("no", x.says("push 1 over -2"), "# no\n");
    x.due("behind it", x.all(), before);
  }

  /** "CHANGE .. the crossing of that number": "its places begin where the new lower strand goes in" */
  private static void changeACrossing() {
    moves(HOPF, "change 0", "code -[2, 1, 3, 4] +[3, 1, 2, 4]");
    moves(HOPF, "change 1", "code +[1, 3, 4, 2] -[4, 3, 1, 2]");
    stays(HOPF, "change 2");
    stays(HOPF, "change 9999");
    stays("code o 1", "change 0");
    moves("code -[2, 1, 1, 2]", "change 0", LOOP);
    moves(HOPF, "mirror", "code -[2, 1, 3, 4] -[4, 3, 1, 2]");
    moves("code o 20", "mirror", "code o 20");
  }

  /** "REVERSE the component (of a circle nothing changes)": "crossings of it with others change their signs" */
  private static void reverseAComponent() {
    moves(HOPF, "reverse 0", "code -[4, 2, 1, 3] -[3, 1, 2, 4]");
    moves(HOPF, "reverse 1", "code -[1, 3, 4, 2] -[2, 4, 3, 1]");
    stays(HOPF, "reverse 2");
    moves(HOPF + " o 1", "reverse 2", HOPF + " o 1");
    stays(HOPF + " o 1", "reverse 3");
    moves(LOOP, "reverse 0", "code +[2, 2, 1, 1]");
    stays(LOOP, "reverse 1");
    moves("code o 20", "reverse 19", "code o 20");
    stays("code o 20", "reverse 20");
    stays("code", "reverse 0");
  }

  /** "SMOOTH the crossing of that number" */
  private static void smoothACrossing() {
    moves(HOPF, "smooth 0", LOOP);
    moves(HOPF, "smooth 1", LOOP);
    stays(HOPF, "smooth 2");
    stays(HOPF, "smooth 9999");
    stays("code o 1", "smooth 0");
    moves(TREFOIL, "smooth 2", HOPF);
  }

  /** "(labels and circles as with LIFT)"; "more than 20 circles can't be done" */
  private static void smoothAndCircles() {
    moves(LOOP, "smooth 0", "code o 2");
    moves(LOOP + " o 18", "smooth 0", "code o 20");
    stays(LOOP + " o 19", "smooth 0");
    stays(LOOP + " o 20", "smooth 0");
    // A loop on a longer strand leaves one circle.
    String longer = "code +[1, 1, 2, 4] -[2, 3, 3, 4]";
    moves(longer + " o 19", "smooth 0", "code -[2, 3, 3, 2] o 20");
    stays(longer + " o 20", "smooth 0");
    // None more: with 20 of them, too.
    moves(HOPF + " o 20", "smooth 0", LOOP + " o 20");
  }

  /** "edges get the labels 1, 2, .. along each component from its least label on, component by component" */
  private static void numberFromTheLeastLabelOn() {
    moves("code", "number", "code");
    moves("code o 20", "number", "code o 20");
    moves("code +[9999, 9999, 70, 70]", "number", "code +[2, 2, 1, 1]");
    moves("code +[30, 30, 40, 40] +[20, 20, 9999, 9999]", "number", "code +[3, 3, 4, 4] +[1, 1, 2, 2]");
    moves(TREFOIL, "number", "code +[1, 5, 2, 4] +[5, 3, 6, 2] +[3, 1, 4, 6]");
    moves(HOPF, "number", "code +[1, 4, 2, 3] +[4, 1, 3, 2]");
  }

  /** "what can be done there by Part III alone, however many circles it would leave" */
  private static void facesWhateverCirclesWouldBeLeft() {
    says(LOOP + " o 20\nfaces", "# ok\n# 3\n# 0 0 1 -2\n# 1 1 -1\n# 2 1 2\n");
    says(APART + " o 19\nfaces\nundo 0", "# ok\n# 4\n# 0 2 1 -2\n# 1 2 -1 -3\n# 2 2 2 4\n# 3 2 3 -4\n# no\n");
  }

  /** "for what is not there: # no": faces, edges and crossings of a larger diagram that was there before, too */
  private static void whatWasThereEarlierIsNotThere() {
    StringBuilder larger = new StringBuilder("code");
    for (int a = 1; a < 40; a += 2) larger.append(" +[" + (a + 1) + ", " + (a + 1) + ", " + a + ", " + a + "]");
    String small = "code +[2, 2, 1, 1]";
    Session x = new Session("a larger one before");
    x.due("set up", x.says(larger + "\nmirror\nmirror\nsimplify\n" + larger + "\nmirror\nmirror\n" + small), "# ok\n# ok\n# ok\n# undone 20\n# ok\n# ok\n# ok\n# ok\n");
    String before = x.all();
    for (String line : new String[] {"undo 3", "undo 4", "slide 3", "twist 3 + over", "push 1 over 3", "push 3 over -1", "reverse 1", "change 1", "smooth 1"})
      x.due(line, x.says(line), "# no\n");
    x.due("behind them", x.all(), before);
    String three = "code +[1, 4, 5, 2] +[5, 6, 3, 3] +[4, 1, 2, 6]";
    says(three + "\n" + three + "\nnumber\nnumber\n" + three + "\n" + APART + "\nslide 4\nslide 3\nshow", "# ok\n".repeat(6) + "# no\n# no\n" + APART + "\n");
    slideJustBehindTheLastFace();
  }

  /** A slide at the number of a face that a larger diagram had, while this one's last face is just ahead of it. */
  private static void slideJustBehindTheLastFace() {
    String first = "code +[4, 1, 5, 2] +[5, 6, 3, 3] +[1, 4, 2, 6]";
    for (int times = 1; times <= 4; times++) says((first + "\n").repeat(times) + "code\nslide 0\ncode\nslide 0\nslide 0\nshow", "# ok\n".repeat(times + 1) + "# no\n# ok\n# no\n# no\ncode\n");
    // The loop has faces 0 to 2; the larger diagram's face 3 lies at its later edges and crossings alone.
    String later = "code +[2, 2, 1, 1] +[6, 3, 7, 4] +[7, 8, 5, 5] +[3, 6, 4, 8]";
    says(later + "\nfaces", "# ok\n# 8\n# 0 1 1\n# 1 0 -1 2\n# 2 1 -2\n# 3 3 3 -8 -7\n# 4 0 -3 -6\n# 5 0 4 7 -5 8\n# 6 0 -4 6\n# 7 1 5\n");
    for (int times = 1; times <= 4; times++)
      says((later + "\n").repeat(times) + LOOP + "\nslide 3\n" + LOOP + "\nslide 3\nslide 3\nshow", "# ok\n".repeat(times + 1) + "# no\n# ok\n# no\n# no\n" + LOOP + "\n");
  }
}
