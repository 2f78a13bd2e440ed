import java.lang.management.ManagementFactory;

/** "All memory is its own, made once." */
public final class MemoryTest {
  private static final String[] TEXTS = {"braid 3 1 -2 1 -2\nfaces\ncount\njones\nalexander\n", "code +[1, 1, 2, 2] o 3\ntwist 0 + over\npush 1 over 4\nsimplify\nshow\nbracket = A^5 + A\n",
    "braid 8 1 2 3 -4 5 6 -7\nreverse 0\nmirror\nnumber\nsmooth 3\nshow\n", "undo 00\n", "braid 3 1 2 1\nslide 4\nchange 1\nundo 3\nshow\n"};

  public static void main(String[] args) {
    twoEngines();
    madeOnce();
    Checks.end();
  }

  /** Two engines by turns answer as each of them does alone. */
  private static void twoEngines() {
    for (int a = 0; a < TEXTS.length; a++)
      for (int b = 0; b < TEXTS.length; b++) {
        Session x = new Session("by turns " + a);
        Session y = new Session("by turns " + b);
        x.text(TEXTS[a]);
        y.text(TEXTS[b]);
        for (int i = 0; i < 8; i++) {
          x.run(1);
          y.run(1);
        }
        x.due("with " + b, x.paper() + x.all(), alone(a));
        y.due("with " + a, y.paper() + y.all(), alone(b));
      }
  }

  private static String alone(int k) {
    Session x = new Session("alone " + k);
    x.text(TEXTS[k]);
    for (int i = 0; i < 8; i++) x.run(1);
    return x.paper() + x.all();
  }

  /** Behind the constructor no call makes an object; the first round is for what Java itself makes at a first use. */
  private static void madeOnce() {
    if (!(ManagementFactory.getThreadMXBean() instanceof com.sun.management.ThreadMXBean bean) || !bean.isThreadAllocatedMemorySupported()) return;
    int[][] bytes = new int[TEXTS.length][];
    for (int k = 0; k < TEXTS.length; k++) bytes[k] = Checks.bytes(TEXTS[k] + " ".repeat(20));
    long used = 0;
    for (int round = 0; round < 3; round++) {
      LinkEngine x = new LinkEngine();
      long before = bean.getCurrentThreadAllocatedBytes();
      for (int[] text : bytes) allCalls(x, text);
      used = bean.getCurrentThreadAllocatedBytes() - before;
    }
    Checks.due("bytes made by calls: " + used, used < 500, true);
  }

  private static void allCalls(LinkEngine x, int[] t) {
    for (int i = 0; i + 20 <= t.length; i += 20) x.feed(word(t, i), word(t, i + 4), word(t, i + 8), word(t, i + 12), word(t, i + 16));
    x.read(x.state(7));
    for (int i = 0; i < 8; i++) x.run(1);
    x.fault(0);
    x.crossing(0, 0);
    x.state(5);
    x.same();
    x.form(true, 1, 1);
    x.length(false);
    x.printed(0);
    x.wipe(true);
    x.read(x.state(7));
    x.run(16);
    x.wipe(false);
  }

  private static int word(int[] t, int i) { return t[i] << 24 | t[i + 1] << 16 | t[i + 2] << 8 | t[i + 3]; }
}
