/** What the tests share: counting wrong answers, and texts in and out of an engine. */
final class Checks {
  private static int wrong = 0;

  static void due(String what, Object got, Object want) {
    if (got.equals(want)) return;
    wrong++;
    if (wrong <= 40) System.out.println(what + ": answered <" + got + ">, due is <" + want + ">");
  }

  static void end() {
    if (wrong == 0) return;
    System.out.println(wrong + " answers are not as due");
    System.exit(1);
  }

  static int[] bytes(String text) { return text.chars().toArray(); }

  /** The five numbers for feed() from byte `at` on; bytes behind the text are spaces. */
  static int[] five(int[] text, int at) {
    int[] row = new int[5];
    for (int i = 0; i < 20; i++) row[i / 4] = row[i / 4] << 8 | (at + i < text.length ? text[at + i] : 32);
    return row;
  }

  /** Puts a text on an empty tape and reads it. */
  static int read(LinkEngine x, String text) {
    int[] b = bytes(text);
    for (int i = 0; i < b.length; i += 20) {
      int[] f = five(b, i);
      x.feed(f[0], f[1], f[2], f[3], f[4]);
    }
    return x.read(b.length);
  }

  static String printed(LinkEngine x) {
    StringBuilder s = new StringBuilder();
    for (int i = 0; x.printed(i) >= 0; i++) s.append((char) x.printed(i));
    return s.toString();
  }

  /** What all lines of a text print, the engine's paper being empty before and behind. */
  static String answer(LinkEngine x, String text) {
    due("read of " + text, read(x, text) >= 0, true);
    while (x.state(0) > 0 && x.run(16) > 0) { }
    String s = printed(x);
    x.wipe(false);
    return s;
  }

  static String fresh(String text) { return answer(new LinkEngine(), text); }
}
