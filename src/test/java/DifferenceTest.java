import java.util.ArrayList;
import java.util.List;
import java.util.Random;

/** Runs of calls, made up from a seed, on an engine and on the plain one: every answer is the same. */
public final class DifferenceTest {
  private final Random random;
  private final LinkEngine x = new LinkEngine();
  private final Reference r = new Reference();
  private final String name;
  private int calls = 0;

  private DifferenceTest(long seed) { random = new Random(seed); name = "seed " + seed; }

  public static void main(String[] args) {
    long first = args.length > 0 ? Long.parseLong(args[0]) : 1;
    int runs = args.length > 1 ? Integer.parseInt(args[1]) : 400;
    for (int i = 0; i < runs; i++) new DifferenceTest(first + i).go();
    Checks.end();
  }

  private void same(String call, int got, int want) { calls++; Checks.due(name + " " + call, got, want); }

  private void go() {
    compareAll();
    for (int round = 0; round < 8; round++) {
      if (random.nextInt(3) == 0) walk(20);
      String text = text();
      if (random.nextInt(3) == 0) text = spoil(text);
      put(text);
      doAll();
      if (random.nextInt(4) == 0) { // what was printed is a text again
        boolean tape = random.nextInt(3) > 0;
        same("wipe", x.wipe(tape), r.wipe(tape));
        int n = r.tape.size() - (random.nextInt(5) == 0 ? 1 : 0);
        same("read", x.read(n), r.read(n));
        same("fault", x.fault(0), r.fault(0));
        same("fault place", x.fault(1), r.fault(1));
        doAll();
      }
      if (random.nextInt(3) > 0) { boolean tape = random.nextInt(8) == 0; same("wipe", x.wipe(tape), r.wipe(tape)); }
    }
  }

  /** Lines one by one, each of them chosen by what the diagram is: most of them can be done. */
  private void walk(int steps) {
    put(random.nextBoolean() ? braid(random.nextBoolean()) : code());
    doAll();
    for (int i = 0; i < steps; i++) {
      put(fitting());
      doAll();
      if (r.out.length() > 3000) same("wipe", x.wipe(false), r.wipe(false));
    }
  }

  private String fitting() {
    List<List<Integer>> faces = Reference.faces(r.d);
    String some = line(true);
    if (faces.isEmpty()) return random.nextBoolean() ? "twist 0 + over" : some;
    List<Integer> face = faces.get(random.nextInt(faces.size()));
    int dart = face.get(random.nextInt(face.size()));
    switch (random.nextInt(9)) {
      case 0, 1, 2:
        for (int f = 0; f < faces.size(); f++) if (Reference.deed(r.d, faces.get(f)) == 3 && random.nextInt(3) > 0) return "slide " + f;
        return "push " + dart + side() + " " + face.get(random.nextInt(face.size()));
      case 3, 4: return "push " + dart + side() + " " + face.get(random.nextInt(face.size()));
      case 5: {
        List<Integer> other = faces.get(random.nextInt(faces.size()));
        return "push " + dart + side() + " " + other.get(random.nextInt(other.size()));
      }
      case 6:
        for (int f = 0; f < faces.size(); f++) if (Reference.deed(r.d, faces.get(f)) % 3 != 0 && random.nextInt(3) > 0) return "undo " + f;
        return "twist " + Math.abs(dart) + (random.nextBoolean() ? "+" : "-") + side();
      case 7: return (random.nextBoolean() ? "change " : "smooth ") + random.nextInt(r.d.size() + 1);
      default: return some;
    }
  }

  private void put(String text) {
    int[] b = Checks.bytes(text);
    int over = r.tape.size();
    for (int i = 0; i < b.length; i += 20) {
      int[] f = Checks.five(b, i);
      same("feed", x.feed(f[0], f[1], f[2], f[3], f[4]), r.feed(f));
    }
    int n = Math.min(r.tape.size(), over + b.length);
    if (random.nextInt(20) == 0) n = random.nextInt(n + 30) - 5;
    same("state(7)", x.state(7), r.state(7));
    same("read(" + n + ") of <" + text + ">", x.read(n), r.read(n));
    same("fault(0) of <" + text + ">", x.fault(0), r.fault(0));
    same("fault(1) of <" + text + ">", x.fault(1), r.fault(1));
  }

  private void doAll() {
    for (int k = 0; k < 70 && r.state(0) > 0; k++) {
      int n = random.nextInt(4) == 0 ? random.nextInt(20) - 2 : 1 + random.nextInt(3);
      String line = "kind " + r.state(1) + " on " + Reference.printDiagram(r.d, r.circles);
      int before = r.out.length();
      int did = r.run(n);
      same("run(" + n + ") " + line, x.run(n), did);
      String got = Checks.printed(x);
      Checks.due(name + " printed, " + line, got.substring(Math.min(before, got.length())), r.out.substring(before));
      if (random.nextInt(3) == 0) compareAll();
      if (did == 0 && n > 0) { same("wipe", x.wipe(false), r.wipe(false)); if (r.run(0) == 0 && r.done == 2000) return; }
    }
    compareAll();
  }

  private void compareAll() {
    for (int w = -1; w <= 8; w++) same("state(" + w + ")", x.state(w), r.state(w));
    for (int w = -1; w <= 2; w++) same("fault(" + w + ")", x.fault(w), r.fault(w));
    for (int c = -1; c <= 20; c++) for (int w = -1; w <= 5; w++) same("crossing(" + c + ", " + w + ")", x.crossing(c, w), r.crossing(c, w));
    same("same()", x.same() ? 1 : 0, r.same() ? 1 : 0);
    for (int b = 0; b < 2; b++) {
      same("length", x.length(b == 1), r.length(b == 1));
      for (int j = -1; j <= 21; j++) for (int p = -1; p <= 9; p++) same("form(" + b + ", " + j + ", " + p + ")", x.form(b == 1, j, p), r.form(b == 1, j, p));
    }
    same("printed(-1)", x.printed(-1), r.printed(-1));
    same("printed(end)", x.printed(r.out.length()), -1);
  }

  // ---------------------------------------------------------------- texts

  private String text() {
    StringBuilder s = new StringBuilder();
    int n = random.nextInt(10) == 0 ? 60 + random.nextInt(8) : 1 + random.nextInt(12);
    boolean small = random.nextInt(3) > 0;
    for (int i = 0; i < n && s.length() < 3800; i++) {
      if (i == 0 && random.nextInt(2) == 0) s.append(random.nextInt(3) == 0 ? code() : braid(small));
      else s.append(line(small));
      if (random.nextInt(12) == 0) s.append(" # it is ]");
      if (random.nextInt(20) == 0) s.append("\n  ");
      s.append('\n');
    }
    if (random.nextInt(4) == 0) s.setLength(s.length() - 1);
    return s.toString();
  }

  private String line(boolean small) {
    int k = random.nextInt(100);
    if (k < 10) return braid(small);
    if (k < 15) return code();
    if (k < 23) return "undo " + random.nextInt(24);
    if (k < 33) return "slide " + random.nextInt(24);
    if (k < 42) return "twist " + label(0) + (random.nextBoolean() ? " + " : "-") + side();
    if (k < 58) return "push " + (random.nextBoolean() ? "-" : "") + label(1) + side() + (random.nextBoolean() ? "- " : " ") + label(1);
    if (k < 60) return "simplify";
    if (k < 63) return "mirror";
    if (k < 68) return "reverse " + random.nextInt(5);
    if (k < 72) return "change " + random.nextInt(21);
    if (k < 76) return "smooth " + random.nextInt(21);
    if (k < 79) return "number";
    if (k < 84) return "show";
    if (k < 88) return "count";
    if (k < 92) return "faces";
    String word = k < 94 ? "bracket" : k < 97 ? "jones" : "alexander";
    String v = word.equals("alexander") ? "t" : "A";
    if (random.nextInt(3) > 0) return word;
    StringBuilder s = new StringBuilder(word + " = ");
    int n = random.nextInt(40) == 0 ? 60 + random.nextInt(8) : 1 + random.nextInt(4);
    for (int i = 0; i < n; i++) {
      s.append(i > 0 ? random.nextBoolean() ? " + " : "-" : random.nextBoolean() ? "-" : "");
      int form = random.nextInt(5);
      if (form != 1 && form != 3) s.append(random.nextInt(4) == 0 ? "" + Math.abs(random.nextLong() % 1000000000000000000L) : "" + random.nextInt(5));
      if (form != 0) s.append(v);
      if (form > 2) s.append("^" + (random.nextInt(13) - 6));
    }
    return s.toString();
  }

  private String side() { return random.nextBoolean() ? " over " : " under"; }

  private int label(int low) { return low + random.nextInt(14); }

  private String braid(boolean small) {
    int n = 1 + random.nextInt(random.nextInt(10) == 0 ? 9 : small ? 3 : 6);
    int k = random.nextInt(random.nextInt(30) == 0 ? 34 : small ? 9 : 21);
    StringBuilder s = new StringBuilder("braid " + n);
    for (int i = 0; i < k && n > 1; i++) {
      int v = 1 + random.nextInt(random.nextInt(100) == 0 ? n : n - 1);
      s.append(random.nextInt(3) > 0 ? " " : "-").append(v);
    }
    return s.toString();
  }

  /** The code of some closure, often with something in it that makes it none. */
  private String code() {
    if (random.nextInt(5) == 0) return "code o " + random.nextInt(24);
    if (random.nextInt(5) == 0) return nearlyFull();
    Reference other = new Reference();
    String b = braid(random.nextBoolean());
    int[] t = Checks.bytes(b);
    for (int i = 0; i < t.length; i += 20) other.feed(Checks.five(t, i));
    other.read(t.length);
    other.run(1);
    List<Reference.Cross> d = new ArrayList<>(other.d);
    int times = random.nextInt(3);
    for (int i = 0; i < times && !d.isEmpty(); i++) {
      Reference.Cross c = d.get(random.nextInt(d.size()));
      switch (random.nextInt(6)) {
        case 0 -> c.l[random.nextInt(4)] = random.nextInt(12);
        case 1 -> c.sign = -c.sign;
        case 2 -> { int q = c.l[1]; c.l[1] = c.l[3]; c.l[3] = q; c.sign = -c.sign; }
        case 3 -> d.remove(c);
        case 4 -> d.add(d.remove(0));
        default -> { int q = c.l[0]; c.l[0] = c.l[2]; c.l[2] = q; }
      }
    }
    int more = random.nextInt(30) == 0 ? 20 : other.circles;
    return Reference.printDiagram(d, more).trim();
  }

  /** Loops that may become circles, with nearly as many circles, or crossings, as there can be. */
  private String nearlyFull() {
    StringBuilder s = new StringBuilder("code");
    int n = random.nextBoolean() ? 17 + random.nextInt(4) : 1 + random.nextInt(6);
    for (int k = 0; k < n; k++) {
      int a = 2 * k + 1 + random.nextInt(2);
      int b = 4 * k + 3 - a;
      s.append(random.nextBoolean() ? " +[" + a + "," + a + "," + b + "," + b + "]" : " -[" + a + "," + b + "," + b + "," + a + "]");
    }
    return s + " o " + (n < 10 ? 15 + random.nextInt(7) : random.nextInt(21));
  }

  private String spoil(String text) {
    StringBuilder s = new StringBuilder(text);
    String signs = "+-[],=^# \n0123456789Atov\t\177\200\377x!";
    int times = 1 + random.nextInt(2);
    for (int i = 0; i < times && s.length() > 0; i++) {
      int at = random.nextInt(s.length());
      char c = signs.charAt(random.nextInt(signs.length()));
      switch (random.nextInt(4)) {
        case 0 -> s.setCharAt(at, c);
        case 1 -> s.insert(at, c);
        case 2 -> s.deleteCharAt(at);
        default -> s.insert(at, random.nextInt(2) == 0 ? "00" : "1234567890123456789".substring(random.nextInt(15)));
      }
    }
    return s.toString();
  }
}
