/** Part VI of the document and the promises of the engine's own calls, each sentence at its boundary and beyond. */
public final class EngineEdgeTest {
  private static final int[] FAR = {Integer.MIN_VALUE, Integer.MIN_VALUE + 1, -4001, Integer.MAX_VALUE - 1, Integer.MAX_VALUE};

  public static void main(String[] args) {
    aNewObject();
    runFromNoneToSixteen();
    runUpToASum();
    twoThousandLines();
    twoHundredSums();
    twoHundredWhateverTheyAnswer();
    aSumWithoutRoomIsNotCounted();
    roomForEachKind();
    thenItStops();
    fourThousandBetweenTwoWipes();
    states();
    crossings();
    printedBytes();
    wipes();
    sixtyFourOtherLines();
    whatIsPrintedFindsTheSame();
    Checks.end();
  }

  /** Promise 1: "Nothing on the tape, no lines, nothing printed." */
  private static void aNewObject() {
    Session x = new Session("new");
    for (int w = 0; w <= 7; w++) x.due("state " + w, x.state(w), 0);
    x.due("fault", x.fault(0), -1);
    x.due("place", x.fault(1), -1);
    x.due("printed", x.printed(0), -1);
    x.due("crossing", x.crossing(0, 0), 0);
    x.due("same", x.same(), true);
    x.due("form", x.form(false, 0, 0) + x.form(true, 0, 0) + x.form(false, 1, 1) + x.form(true, 1, 1), 0);
    x.due("length", x.length(false) + x.length(true), 0);
    x.due("run", x.run(16), 0);
    x.due("read", x.read(1), -2);
    x.due("wipe", x.wipe(true), 0);
    x.due("tape", x.state(7), 0);
    x.due("feed", x.feed(0, 0, 0, 0, 0), 20);
  }

  /** Promise 5: "So many lines are done, as long as there are some: how many. -1 when n is not 0 .. 16." */
  private static void runFromNoneToSixteen() {
    Session x = new Session("run");
    x.due("read", x.text("code o 1\n" + "show\n".repeat(33)), 34);
    x.refused("run(-1)", () -> x.run(-1), -1);
    x.refused("run(17)", () -> x.run(17), -1);
    for (int n : FAR) x.refused("run(" + n + ")", () -> x.run(n), -1);
    x.refused("run(0)", () -> x.run(0), 0);
    x.due("run(1)", x.run(1), 1);
    x.due("lines", x.state(0), 33);
    x.due("run(16)", x.run(16), 16);
    x.due("lines", x.state(0), 17);
    x.due("printed", x.state(6), 5 + 16 * 9);
    x.due("run(16)", x.run(16), 16);
    x.due("run(16), one left", x.run(16), 1);
    x.refused("run(16), none left", () -> x.run(16), 0);
    x.due("printed", x.state(6), 5 + 33 * 9);
  }

  /** "up to the first one of the kinds 16 to 18 and with it" */
  private static void runUpToASum() {
    for (String sum : new String[] {"bracket", "jones", "alexander", "bracket = 1", "jones = 7", "alexander = t"}) {
      Session x = new Session("run up to " + sum);
      String text = "show\nfaces\n" + sum + "\nshow\n" + sum + "\n" + sum + "\n";
      x.due("read", x.text(text), 6);
      x.due("with it", x.run(16), 3);
      x.due("kind", x.state(1), 13);
      x.due("with the next one", x.run(16), 2);
      x.due("the first of all", x.run(16), 1);
      x.due("lines", x.state(0), 0);
      x.due("read", x.text(text), 6);
      x.due("ahead of it", x.run(2), 2);
      x.due("it alone", x.run(2), 1);
      x.due("read", x.text(text), 6);
      x.due("just with it", x.run(3), 3);
      x.due("read", x.text(text), 6);
      x.due("not behind it", x.run(4), 3);
      x.due("none", x.run(0), 0);
      x.due("lines", x.state(0), 3);
    }
    Session y = new Session("faces stop no run");
    y.due("read", y.text("faces\ncount\nfaces\n"), 3);
    y.due("run", y.run(16), 3);
  }

  /** "An engine does 2,000 lines at most"; "One that would be one too many of the engine's .. is not done, and waits on; then it stops" */
  private static void twoThousandLines() {
    Session x = new Session("2,000 lines");
    int done = 0;
    for (int round = 0; round < 15; round++) { // lines that print lines: these are done, too
      x.text("show\n".repeat(64));
      for (int i = 0; i < 4; i++) done += x.run(16);
      x.due("wipe", x.wipe(true), 320);
      x.due("read", x.read(320), 64);
      for (int i = 0; i < 4; i++) done += x.run(16);
      x.wipe(false);
    }
    x.text("show\n".repeat(63));
    done += x.run(16) + x.run(16) + x.run(16) + x.run(15);
    x.wipe(false);
    x.due("so far", done, 1983);
    x.due("read", x.text("braid 2 1 1\n" + "undo 9\n".repeat(15) + "code o 3\nmirror\njones\n"), 19);
    x.due("up to one before the last", x.run(16), 16);
    x.due("the last", x.run(16), 1);
    x.refused("one too many", () -> x.run(16), 0);
    x.due("it waits", x.state(0) * 100 + x.state(1), 208);
    x.due("another text", x.text("code o 4\n"), 1);
    x.due("no line any more", x.run(1), 0);
    x.due("circles", x.state(3), 3);
    x.due("wipe", x.wipe(true), 85);
    x.due("reading goes on", x.read(85), 0);
  }

  /** "and of these 200 of the kinds 16 to 18" */
  private static void twoHundredSums() {
    Session x = new Session("200 sums");
    String[] sums = {"jones\n", "bracket\n", "alexander\n"};
    for (int left = 199; left > 0; left -= 50) {
      int n = Math.min(50, left);
      StringBuilder s = new StringBuilder();
      for (int i = 0; i < n; i++) s.append(sums[i % 3]);
      x.text(s.toString());
      for (int i = 0; i < n; i++) x.due("sum", x.run(16), 1);
      x.wipe(false);
    }
    x.due("read", x.text("code o 1\njones\ncode o 2\nalexander\nshow\n"), 5);
    x.due("the last one", x.run(16), 2);
    x.due("another line", x.run(16), 1);
    x.refused("one too many", () -> x.run(16), 0);
    x.due("it waits", x.state(0) * 100 + x.state(1), 218);
    x.due("printed", x.paper(), "# ok\njones = 1\n# ok\n");
    x.due("others", x.text("show\ncount\nbracket = 1\n"), 3);
    x.due("others are done", x.run(16), 2);
    x.refused("one too many", () -> x.run(16), 0);
    x.due("yet others", x.text("code o 5\n"), 1);
    x.due("are done", x.run(16), 1);
    x.due("circles", x.state(3), 5);
  }

  /** "whatever they answer (# no, too)" */
  private static void twoHundredWhateverTheyAnswer() {
    String[] rows = {"jones = 7\n", "alexander = 0\n", "bracket\n"};
    for (String setUp : new String[] {"code o 10\n", "braid 2" + " 1".repeat(11) + "\n", ""}) {
      Session x = new Session("200 answers behind " + setUp);
      x.text(setUp);
      x.run(1);
      x.wipe(false);
      int done = 0;
      for (int left = 200; left > 0; left -= 60) {
        int n = Math.min(60, left);
        StringBuilder s = new StringBuilder();
        for (int i = 0; i < n; i++) s.append(rows[i % 3]);
        x.text(s.toString());
        for (int i = 0; i < n; i++) done += x.run(1);
        x.wipe(false);
      }
      x.due("done", done, 200);
      x.text("jones = 7\nshow\n");
      x.due("one too many", x.run(16), 0);
      x.due("it waits", x.state(0) * 100 + x.state(1), 217);
    }
  }

  /** A line that is not done does not count, neither as a line nor as one of the 200. */
  private static void aSumWithoutRoomIsNotCounted() {
    Session x = new Session("no room for a sum");
    x.fill(3996);
    x.text("jones\n");
    for (int i = 0; i < 5; i++) x.due("no room", x.run(16), 0);
    x.wipe(false);
    x.due("now it has", x.run(16), 1);
    int done = 1;
    for (int left = 199; left > 0; left -= 64) {
      int n = Math.min(64, left);
      x.text("jones\n".repeat(n));
      for (int i = 0; i < n; i++) done += x.run(1);
    }
    x.due("all of the 200", done, 200);
    x.text("jones\n");
    x.due("no more", x.run(1), 0);
  }

  /** "or for whose lines there is no room (4,000 bytes are printed at most between two wipe()s), is not done, and waits on", "having printed and changed nothing by it" */
  private static void roomForEachKind() {
    String loop = "code +[1, 1, 2, 2] -[4, 3, 3, 4] o 2\n";
    String three = "braid 3 1 2 1\n";
    String[][] rows = {{loop, "code o 3"}, {loop, "code +[0, 1, 1, 1]"}, {loop, "code +[1, 2, 9999, 4]"}, {loop, "braid 2 1"}, {loop, "braid 9"}, {loop, "undo 1"}, {loop, "undo 0"},
      {three, "slide 4"}, {three, "slide 0"}, {loop, "twist 0 + over"}, {loop, "twist 2 - under"}, {loop, "push 1 over -2"}, {loop, "push 1 over 4"}, {loop, "push 1 over 2"},
      {loop, "simplify"}, {three, "simplify"}, {loop, "mirror"}, {three, "reverse 0"}, {loop, "change 1"}, {loop, "smooth 0"}, {three, "number"}, {loop, "show"}, {loop, "count"}, {three, "faces"},
      {loop, "bracket"}, {three, "jones"}, {three, "alexander"}, {loop, "bracket = 1"}, {three, "jones = 1"}, {three, "alexander = 0"}, {three, "alexander = 1"}, {"code o 10\n", "jones"}};
    for (String[] row : rows) room(row[0], row[1]);
  }

  private static void room(String setUp, String line) {
    Session before = new Session("answer of " + line);
    before.says(setUp);
    String answer = before.says(line);
    String behind = before.all();
    int n = answer.length();

    Session x = new Session("just room for " + line);
    x.fill(4000 - 5 - n);
    x.text(setUp + line);
    x.due("done", x.runAll(), 2);
    x.due("full", x.state(6), 4000);
    x.due("last byte", x.printed(3999), 10);
    x.due("none behind", x.printed(4000), -1);
    x.wipe(false);
    x.due("changed", x.all(), behind);

    Session y = new Session("a byte too few for " + line);
    y.fill(4000 - 5 - n + 1);
    y.text(setUp + line);
    y.due("set up", y.run(1), 1);
    y.refused("no room", () -> y.run(16), 0);
    y.refused("still no room", () -> y.run(1), 0);
    y.due("it waits", y.state(0), 1);
    y.due("printed", y.state(6), 4000 - n + 1);
    y.due("wipe", y.wipe(false), 4000 - n + 1);
    y.due("now it is done", y.run(16), 1);
    y.due("printed", y.paper(), answer);
    y.wipe(false);
    y.due("changed", y.all(), behind);
  }

  /** "then it stops": lines behind it wait, too, though there were room for them */
  private static void thenItStops() {
    Session x = new Session("it stops");
    x.fill(3980);
    x.due("read", x.text("code o 3\nshow\ncount\ncode o 4\nmirror\n"), 5);
    x.due("two have room", x.run(16), 2);
    x.due("printed", x.state(6), 3994);
    x.refused("none behind", () -> x.run(16), 0);
    x.due("lines", x.state(0) * 100 + x.state(1), 314);
    x.due("circles", x.state(3), 3);
    x.due("wipe", x.wipe(true), 3994);
    x.due("all", x.run(16), 3);
    x.due("circles", x.state(3), 4);
  }

  /** "4,000 bytes are printed at most between two wipe()s" */
  private static void fourThousandBetweenTwoWipes() {
    Session x = new Session("between two wipes");
    x.fill(4000);
    x.due("full", x.state(6), 4000);
    x.text("show\n");
    x.refused("no room", () -> x.run(1), 0);
    x.due("wipe", x.wipe(false), 4000);
    x.due("room", x.run(1), 1);
    x.due("wipe", x.wipe(false), 5);
    x.fill(4000);
    x.due("full again", x.state(6), 4000);
  }

  /** Promise 6: "-1000 for others" */
  private static void states() {
    Session x = new Session("states");
    x.due("set up", x.says("braid 5 1 1 -2\n"), "# ok\n");
    x.text("show\njones\n");
    x.feed(0, 0, 0, 0, 0);
    int[] want = {2, 13, 3, 2, 1, 4, 0, 20};
    for (int w = 0; w <= 7; w++) x.due("state " + w, x.state(w), want[w]);
    for (int w : new int[] {-1, 8, -1000, 1 << 8}) x.due("state " + w, x.state(w), -1000);
    for (int w : FAR) x.due("state " + w, x.state(w), -1000);
    x.run(1);
    x.due("kind", x.state(1), 17);
    x.run(1);
    x.due("kind of none", x.state(1), 0);
    x.wipe(false);
    x.due("the tape is empty then", x.read(0) + x.state(7), 0);
    x.due("signs below 0", x.says("code\nbraid 2" + " -1".repeat(20)) + x.state(4), "# ok\n# ok\n-20");
  }

  /** Promise 7: "0 when there is none, or what is another" */
  private static void crossings() {
    Session x = new Session("crossings");
    x.due("none", x.crossing(0, 0), 0);
    x.due("set up", x.says("code +[1, 1, 20, 20] -[7, 6, 6, 7]"), "# ok\n");
    int[][] want = {{1, 1, 20, 20, 1}, {7, 6, 6, 7, -1}};
    for (int k = 0; k < 2; k++) for (int w = 0; w <= 4; w++) x.due("crossing " + k + ", " + w, x.crossing(k, w), want[k][w]);
    for (int w : new int[] {-1, 5, 8}) x.due("what " + w, x.crossing(0, w) + x.crossing(1, w), 0);
    for (int w : FAR) x.due("what " + w, x.crossing(0, w), 0);
    for (int k : new int[] {-1, 2, 20, 21, 1 << 30, (1 << 30) + 1}) for (int w = 0; w <= 4; w++) x.due("crossing " + k, x.crossing(k, w), 0);
    for (int k : FAR) x.due("crossing " + k, x.crossing(k, 0), 0);
    x.due("one less", x.says("undo 1"), "# undone 1\n");
    x.due("the other one", x.crossing(0, 0), 7);
    x.due("none", x.crossing(1, 0), 0);
  }

  /** Promise 8: "-1 when there is none" */
  private static void printedBytes() {
    Session x = new Session("printed");
    x.due("none", x.printed(0), -1);
    x.text("show");
    x.run(1);
    String want = "code\n";
    for (int i = 0; i < 5; i++) x.due("byte " + i, x.printed(i), (int) want.charAt(i));
    x.due("behind", x.printed(5), -1);
    x.due("ahead", x.printed(-1), -1);
    for (int i : FAR) x.due("byte " + i, x.printed(i), -1);
    x.wipe(false);
    x.due("none again", x.printed(0), -1);
    x.fill(4000);
    x.due("last", x.printed(3999), 10);
    x.due("behind", x.printed(4000), -1);
  }

  /** Promise 9: "how many bytes there were. With tape, they (maybe none) come to the tape, in place of what is there." */
  private static void wipes() {
    Session x = new Session("wipe");
    x.feed(0x20202020, 0x20202020, 0x20202020, 0x20202020, 0x20202020);
    x.due("nothing, without tape", x.wipe(false), 0);
    x.due("the tape stays", x.state(7), 20);
    x.due("nothing, with tape", x.wipe(true), 0);
    x.due("the tape is empty", x.state(7), 0);
    x.due("read", x.read(1), -2);
    x.due("read", x.text("code o 3\nshow\nshow\n"), 3);
    x.due("run", x.run(2), 2);
    x.feed(0, 0, 0, 0, 0);
    x.feed(0, 0, 0, 0, 0);
    x.due("wipe", x.wipe(true), 14);
    x.due("printed", x.state(6), 0);
    x.due("no byte", x.printed(0), -1);
    x.due("tape", x.state(7), 14);
    x.due("lines wait on", x.state(0), 1);
    x.due("the diagram stays", x.state(3), 3);
    x.due("more than there are", x.read(15), -2);
    x.due("bytes come behind", x.feed(0x0a73686f, 0x770a2020, 0x20202020, 0x20202020, 0x20202020), 34);
    x.due("both", x.read(34), 2);
    x.due("run", x.run(16), 2);
    x.due("from byte 0 on", x.paper(), "# ok\ncode o 3\n");
    x.feed(0x73686f77, 0x20202020, 0x20202020, 0x20202020, 0x20202020);
    x.due("wipe without tape", x.wipe(false), 14);
    x.due("the tape stays", x.read(20), 1);
    Session y = new Session("wipe of 4,000");
    y.fill(4000);
    y.due("wipe", y.wipe(true), 4000);
    y.due("tape", y.state(7), 4000);
    y.refused("feed", () -> y.feed(0, 0, 0, 0, 0), -1);
    y.refused("read", () -> y.read(4001), -2);
    y.due("read", y.read(4000), 0);
    y.due("fault", y.fault(0), 0);
  }

  /** "so all that is printed is a text again, if it has not more than 64 other lines" */
  private static void sixtyFourOtherLines() {
    Session x = new Session("64 other lines");
    x.text("show\n".repeat(64));
    x.runAll();
    x.text("count\nfaces\nmirror\n");
    x.runAll();
    int n = x.wipe(true);
    x.due("read", x.read(n), 64);
    x.text("show\n".repeat(64));
    x.runAll();
    x.text("count\nshow\n");
    x.runAll();
    n = x.wipe(true);
    x.due("one more", x.read(n), -1);
    x.due("fault", x.fault(0), 5);
    x.due("place", x.fault(1), 340);
    x.due("none wait", x.state(0), 0);
  }

  /** "what is printed is a text again, by which the same is found" */
  private static void whatIsPrintedFindsTheSame() {
    String text = "braid 4 1 1 -3\ntwist 1 + over\npush 1 over 7\nshow\nfaces\ncount\n";
    Session x = new Session("printed again");
    x.text(text);
    x.runAll();
    String first = x.paper();
    int n = x.wipe(true);
    x.due("read", x.read(n), 1);
    x.due("run", x.runAll(), 1);
    x.wipe(false);
    String again = x.says("show\nfaces\ncount\n");
    x.due("the same", again, first.substring(first.indexOf("code")));
  }
}
