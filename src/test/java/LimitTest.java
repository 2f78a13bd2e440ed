/** The limits of an engine: lines, polynomials, room for what is printed. What is not done leaves no trace. */
public final class LimitTest {
  private static void due(String what, Object got, Object want) { Checks.due(what, got, want); }

  public static void main(String[] args) {
    linesOfAnEngine();
    linesThatSumUp();
    room();
    roomForSeveralLines();
    waitingBehindNoRoom();
    Checks.end();
  }

  private static int done(LinkEngine x) {
    int n = 0;
    for (int k = x.run(16); k > 0; k = x.run(16)) n += k;
    return n;
  }

  private static void linesOfAnEngine() {
    LinkEngine x = new LinkEngine();
    Checks.read(x, "show\n".repeat(64));
    int n = done(x);
    for (int i = 1; i < 31; i++) { // what was printed is the same text again
      due("wipe", x.wipe(true), 320);
      due("read", x.read(320), 64);
      Checks.read(x, "show\n".repeat(64));
      n += done(x);
    }
    due("31 texts", n, 31 * 64);
    x.wipe(false);
    Checks.read(x, "braid 2 1 1\nslide 9\n" + "undo 0\n".repeat(13) + "code o 3\nmirror\n");
    due("up to the last one", x.run(16), 16);
    due("one too many", x.run(16), 0);
    due("it waits", x.state(0) * 100 + x.state(1), 108);
    due("circles", x.state(3), 3);
    due("another text", Checks.read(x, "code o 4\njones\n"), 2);
    due("no more lines", x.run(16), 0);
    due("circles", x.state(3), 3);
    due("printed", x.wipe(true), 16 * 5);
    due("reading goes on", x.read(80), 0);
  }

  private static void linesThatSumUp() {
    LinkEngine x = new LinkEngine();
    int n = 0;
    String[] some = {"jones\n", "bracket = 2\n", "alexander\n", "show\n"};
    for (int round = 0; round < 4; round++) {
      String text = (round == 0 ? "code o 10\n" : round == 1 ? "braid 2 1 1\n" : "") + (some[0] + some[1] + some[2] + some[3]).repeat(15);
      Checks.read(x, text);
      while (x.state(0) > 0) {
        int kind = x.state(1);
        due("run", x.run(1), 1);
        if (kind >= 16) n++;
      }
      x.wipe(false);
    }
    due("so far", n, 180);
    Checks.read(x, "jones\n".repeat(20) + "show\nalexander\nshow\n");
    for (int i = 0; i < 20; i++) due("each stops a run", x.run(16), 1);
    due("another line", x.run(16), 1);
    due("one too many", x.run(16), 0);
    due("it waits", x.state(0) * 100 + x.state(1), 218);
    due("other texts", Checks.read(x, "show\nshow\nbracket = 1\n"), 3);
    due("others are done", x.run(16), 2);
    due("again one too many", x.run(16), 0);
  }

  /** Prints so many times five bytes, the diagram being empty. */
  private static void fill(LinkEngine x, int times) {
    for (int left = times; left > 0; left -= 64) {
      Checks.read(x, "show\n".repeat(Math.min(64, left)));
      done(x);
    }
  }

  private static void room() {
    LinkEngine x = new LinkEngine();
    fill(x, 799);
    due("printed", x.state(6), 3995);
    Checks.read(x, "code o 3\ntwist 0 + over\nshow\n");
    due("the last five bytes", x.run(16), 1);
    due("full", x.state(6), 4000);
    due("no room", x.run(16), 0);
    due("it waits", x.state(0) * 100 + x.state(1), 205);
    due("nothing changed", x.state(2) * 100 + x.state(3), 3);
    due("last byte", x.printed(3999), 10);
    due("none behind", x.printed(4000), -1);
    due("wipe", x.wipe(true), 4000);
    due("on the tape", x.state(7), 4000);
    due("now it is done", x.run(16), 2);
    due("changed", Checks.printed(x), "# ok\ncode +[1, 1, 2, 2] o 2\n");
  }

  private static void roomForSeveralLines() {
    LinkEngine x = new LinkEngine();
    fill(x, 790);
    Checks.read(x, "braid 2 1 1 1\nfaces\n");
    due("a braid", x.run(1), 1);
    due("its faces have no room", x.run(1), 0);
    due("none of them is printed", x.state(6), 3955);
    due("and nothing is left of them", x.printed(3955), -1);
    x.wipe(false);
    due("now they have", x.run(1), 1);
    due("whole", x.state(6), 4 + 11 + 15 + 12 + 11 + 11);
  }

  private static void waitingBehindNoRoom() {
    LinkEngine x = new LinkEngine();
    fill(x, 800);
    for (String line : new String[] {"braid 2 1 1", "code o 1", "simplify", "mirror", "jones", "alexander = 0", "code +[1, 2, 3, 0]"}) {
      due(line, Checks.read(x, line), 1);
      due("no room for " + line, x.run(16), 0);
      due("waits: " + line, x.state(0), 1);
      due("printed behind " + line, x.state(6), 4000);
      due("diagram behind " + line, x.state(2) + x.state(3) + x.length(false) + x.form(false, 0, 0), 0);
    }
    due("same", x.same(), true);
  }
}
