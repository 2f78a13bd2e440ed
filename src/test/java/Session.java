import java.util.function.IntSupplier;

/** An engine whose calls are counted: nothing is promised behind the 512th, so no test may rest on one. */
final class Session {
  private static final int CALLS = 512;
  private final LinkEngine x = new LinkEngine();
  private final String name;
  private int calls = 0;

  Session(String name) { this.name = name; }

  private LinkEngine call() {
    calls++;
    if (calls == CALLS + 1) due("calls", calls, CALLS);
    return x;
  }

  int feed(int a, int b, int c, int d, int e) { return call().feed(a, b, c, d, e); }
  int read(int n) { return call().read(n); }
  int fault(int what) { return call().fault(what); }
  int run(int n) { return call().run(n); }
  int state(int what) { return call().state(what); }
  int crossing(int k, int what) { return call().crossing(k, what); }
  int printed(int i) { return call().printed(i); }
  int wipe(boolean tape) { return call().wipe(tape); }
  boolean same() { return call().same(); }
  int form(boolean before, int j, int p) { return call().form(before, j, p); }
  int length(boolean before) { return call().length(before); }

  void due(String what, Object got, Object want) { Checks.due(name + ": " + what, got, want); }

  /** Feeds a text, with spaces behind it; the last answer of feed, 0 for an empty text. */
  int put(String text) {
    int[] b = Checks.bytes(text);
    int answer = 0;
    for (int i = 0; i < b.length; i += 20) {
      int[] f = Checks.five(b, i);
      answer = feed(f[0], f[1], f[2], f[3], f[4]);
    }
    return answer;
  }

  /** Feeds a text to an empty tape and reads it. */
  int text(String text) {
    put(text);
    return read(text.length());
  }

  /** Does all lines that wait, as far as that goes: how many. */
  int runAll() {
    int all = 0;
    for (int n = run(16); n > 0; n = run(16)) all += n;
    return all;
  }

  /** What the lines of a text print; nothing is printed before and behind. */
  String says(String text) {
    int lines = text(text);
    due("lines done of <" + text + ">", runAll(), lines);
    String s = paper();
    due("wipe", wipe(false), s.length());
    return s;
  }

  String paper() {
    StringBuilder s = new StringBuilder();
    for (int b = printed(0); b >= 0; b = printed(s.length())) s.append((char) b);
    return s.toString();
  }

  /** Prints so many bytes (12 or more) with an empty diagram and nothing printed, by lines of 20, 5 and 4 bytes. */
  void fill(int bytes) {
    int rows = Math.max(0, bytes / 20 - 1);
    int fives = 0;
    while ((bytes - 20 * rows - 5 * fives) % 4 != 0) fives++;
    int fours = (bytes - 20 * rows - 5 * fives) / 4;
    for (int left = rows; left > 0; left -= 64) {
      text("count\n".repeat(Math.min(64, left)));
      runAll();
    }
    text("show\n".repeat(fives) + "faces\n".repeat(fours));
    runAll();
    due("filled", state(6), bytes);
  }

  /** Whatever the engine answers about itself (of what is printed the ends alone). */
  String all() {
    StringBuilder s = new StringBuilder("state");
    for (int w = 0; w <= 7; w++) s.append(' ').append(state(w));
    s.append(" fault ").append(fault(0)).append(' ').append(fault(1));
    for (int k = 0; crossing(k, 4) != 0; k++) {
      s.append(" [");
      for (int w = 0; w <= 4; w++) s.append(' ').append(crossing(k, w));
      s.append(']');
    }
    s.append(" braids ").append(same());
    for (boolean before : new boolean[] {false, true})
      s.append(' ').append(form(before, 0, 0)).append(' ').append(length(before)).append(' ').append(form(before, 1, 1));
    int n = state(6);
    return s.append(" bytes ").append(printed(0)).append(' ').append(printed(n - 1)).append(' ').append(printed(n)).toString();
  }

  /** A call that is refused: its answer, and whatever can be asked for is as it was. */
  void refused(String call, IntSupplier made, int want) {
    String before = all();
    due(call, made.getAsInt(), want);
    due("behind " + call, all(), before);
  }
}
