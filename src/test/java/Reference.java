import java.math.BigInteger;
import java.util.ArrayList;
import java.util.Arrays;
import java.util.HashSet;
import java.util.List;
import java.util.Map;
import java.util.Set;
import java.util.TreeMap;
import java.util.TreeSet;

/** A slow and plain engine, written from the document alone, for LinkEngine to be held against. */
final class Reference {
  static final class Fault extends RuntimeException {
    final int code;
    final int place;
    Fault(int code, int place) { super(null, null, false, false); this.code = code; this.place = place; }
  }

  /** kind: w word, n number, m mark, e line's end. */
  static final class Token {
    final char kind; final String text; final int place;
    Token(char kind, String text, int place) { this.kind = kind; this.text = text; this.place = place; }
  }

  static final class Line {
    int kind; final List<BigInteger> numbers = new ArrayList<>();
    int at(int i) { return numbers.get(i).intValue(); }
  }

  static final class Cross {
    int sign; int[] l;
    Cross(int sign, int a, int b, int c, int d) { this.sign = sign; l = new int[] {a, b, c, d}; }
    Cross(Cross o) { sign = o.sign; l = o.l.clone(); }
    int in() { return sign == 1 ? 3 : 1; }
    int out() { return sign == 1 ? 1 : 3; }
    boolean goesOut(int q) { return q == 2 || q == out(); }
  }

  static final String[] WORDS = {"", "code", "braid", "undo", "slide", "twist", "push", "simplify", "mirror", "reverse",
    "change", "smooth", "number", "show", "count", "faces", "bracket", "jones", "alexander"};

  // ---------------------------------------------------------------- the text

  private List<Token> tokens;
  private int pos;

  static List<List<Token>> cut(int[] text) {
    List<List<Token>> all = new ArrayList<>();
    int i = 0;
    while (i < text.length) {
      List<Token> line = new ArrayList<>();
      int end = i;
      while (end < text.length && text[end] != 10) end++;
      boolean remark = false;
      int k = i;
      while (k < end) {
        int b = text[k];
        if (b < 32 || b > 126) { line.add(new Token('b', "", k)); k++; continue; }
        if (b == '#') remark = true;
        if (remark || b == ' ') { k++; continue; }
        int s = k;
        String t = "";
        if (Character.isLetter(b)) { while (k < end && text[k] < 128 && Character.isLetter(text[k])) t += (char) text[k++]; line.add(new Token('w', t, s)); }
        else if (Character.isDigit(b)) { while (k < end && text[k] < 128 && Character.isDigit(text[k])) t += (char) text[k++]; line.add(new Token('n', t, s)); }
        else { line.add(new Token('m', "" + (char) b, s)); k++; }
      }
      line.add(new Token('e', "", end));
      all.add(line);
      i = end + 1;
    }
    return all;
  }

  static List<Line> parse(int[] text) {
    List<Line> lines = new ArrayList<>();
    for (List<Token> row : cut(text)) {
      if (row.size() == 1) continue;
      Reference r = new Reference();
      r.tokens = row;
      r.pos = 0;
      lines.add(r.line(lines.size()));
    }
    return lines;
  }

  private Token peek() { return tokens.get(pos); }

  /** The fault with this code at the next token, or a worse one there. */
  private Fault bad(int code) {
    Token t = peek();
    if (t.kind == 'b') return new Fault(1, t.place);
    if (t.kind == 'n' && numberIsWrong(t.text, false)) return new Fault(2, t.place);
    return new Fault(code, t.place);
  }

  private static boolean numberIsWrong(String s, boolean ofTerm) {
    return s.length() > 18 || s.length() > 1 && s.charAt(0) == '0' || !ofTerm && new BigInteger(s).compareTo(BigInteger.valueOf(9999)) > 0;
  }

  private boolean sees(String s) { Token t = peek(); return (t.kind == 'w' || t.kind == 'm') && t.text.equals(s); }

  private BigInteger n(boolean ofTerm) {
    Token t = peek();
    if (t.kind != 'n') throw bad(4);
    if (numberIsWrong(t.text, ofTerm)) throw new Fault(2, t.place);
    pos++;
    return new BigInteger(t.text);
  }

  private BigInteger x() {
    if (sees("-")) { pos++; return n(false).negate(); }
    return n(false);
  }

  private void mark(String s) { if (!sees(s)) throw bad(4); pos++; }

  private int sign() {
    if (sees("+")) { pos++; return 1; }
    if (sees("-")) { pos++; return -1; }
    throw bad(4);
  }

  private int side() {
    if (sees("over")) { pos++; return 1; }
    if (sees("under")) { pos++; return 0; }
    throw bad(4);
  }

  private Line line(int before) {
    Line line = new Line();
    if (peek().kind == 'w') line.kind = Math.max(0, Arrays.asList(WORDS).indexOf(peek().text));
    if (line.kind == 0) throw bad(3);
    if (before == 64) throw bad(5);
    pos++;
    rest(line);
    if (peek().kind != 'e') throw bad(4);
    return line;
  }

  private void rest(Line line) {
    List<BigInteger> to = line.numbers;
    switch (line.kind) {
      case 1 -> {
        int k = 0;
        while (sees("+") || sees("-")) {
          if (k++ == 20) throw bad(5);
          to.add(BigInteger.valueOf(sign()));
          mark("["); to.add(n(false)); mark(","); to.add(n(false)); mark(","); to.add(n(false)); mark(","); to.add(n(false)); mark("]");
        }
        if (sees("o")) { pos++; to.add(n(false)); } else to.add(BigInteger.ZERO);
      }
      case 2 -> {
        to.add(n(false));
        int k = 0;
        while (sees("-") || peek().kind == 'n') {
          if (k++ == 32) throw bad(5);
          to.add(x());
        }
      }
      case 3, 4, 9, 10, 11 -> to.add(n(false));
      case 5 -> { to.add(n(false)); to.add(BigInteger.valueOf(sign())); to.add(BigInteger.valueOf(side())); }
      case 6 -> { to.add(x()); to.add(BigInteger.valueOf(side())); to.add(x()); }
      case 16, 17, 18 -> {
        if (peek().kind == 'e') return;
        mark("=");
        String v = line.kind == 18 ? "t" : "A";
        int s = 1;
        if (sees("-")) { pos++; s = -1; }
        term(to, s, v);
        int k = 1;
        while (sees("+") || sees("-")) {
          if (k++ == 64) throw bad(5);
          term(to, sign(), v);
        }
      }
      default -> { }
    }
  }

  private void term(List<BigInteger> to, int s, String v) {
    BigInteger c = BigInteger.ONE;
    BigInteger e = BigInteger.ZERO;
    if (peek().kind == 'n') {
      c = n(true);
      if (!sees(v)) { to.add(c.multiply(BigInteger.valueOf(s))); to.add(e); return; }
    }
    mark(v);
    e = BigInteger.ONE;
    if (sees("^")) { pos++; e = x(); }
    to.add(c.multiply(BigInteger.valueOf(s)));
    to.add(e);
  }

  // ---------------------------------------------------------------- printing: tokens, by the rule of Part I

  /** Tokens of a line; "x-" is the - of an X or the first - of a P, "V.." a V, "N.." an N of a term, "S+" "S-" a sign. */
  static String print(List<String> row) {
    StringBuilder s = new StringBuilder();
    for (int i = 0; i < row.size(); i++) {
      String t = row.get(i);
      String p = i == 0 ? null : row.get(i - 1);
      boolean space = p != null;
      if (p != null) {
        if (p.equals("[") || p.equals("^")) space = false;
        if (t.equals("]") || t.equals(",") || t.equals("^")) space = false;
        if (p.equals("x-")) space = false;
        if (p.startsWith("S") && t.equals("[")) space = false;
        if (p.startsWith("N") && t.startsWith("V")) space = false;
      }
      if (space) s.append(' ');
      s.append(t.equals("x-") ? "-" : t.startsWith("S") || t.startsWith("V") || t.startsWith("N") ? t.substring(1) : t);
    }
    return s.append('\n').toString();
  }

  static String printDiagram(List<Cross> d, int circles) {
    List<String> row = new ArrayList<>();
    row.add("code");
    for (Cross c : d) {
      row.add(c.sign == 1 ? "S+" : "S-");
      row.add("[");
      for (int q = 0; q < 4; q++) { if (q > 0) row.add(","); row.add("" + c.l[q]); }
      row.add("]");
    }
    if (circles > 0) { row.add("o"); row.add("" + circles); }
    return print(row);
  }

  static String printPolynomial(int kind, TreeMap<Integer, BigInteger> p) {
    List<String> row = new ArrayList<>();
    row.add(WORDS[kind]);
    row.add("=");
    boolean first = true;
    for (Map.Entry<Integer, BigInteger> t : p.entrySet()) {
      BigInteger c = t.getValue();
      int e = t.getKey();
      if (c.signum() == 0) continue;
      if (first) { if (c.signum() < 0) row.add("x-"); } else row.add(c.signum() < 0 ? "S-" : "S+");
      first = false;
      boolean one = c.abs().equals(BigInteger.ONE);
      if (!one || e == 0) row.add("N" + c.abs());
      if (e != 0) row.add("V" + (kind == 18 ? "t" : "A"));
      if (e != 0 && e != 1) { row.add("^"); if (e < 0) row.add("x-"); row.add("" + Math.abs(e)); }
    }
    if (first) row.add("N0");
    return print(row);
  }

  // ---------------------------------------------------------------- diagrams

  /** [crossing, place] where the label's strand goes out, then where it goes in. */
  static int[][] ends(List<Cross> d, int label) {
    int[] from = null;
    int[] to = null;
    for (int c = 0; c < d.size(); c++)
      for (int q = 0; q < 4; q++)
        if (d.get(c).l[q] == label) { if (d.get(c).goesOut(q)) from = new int[] {c, q}; else to = new int[] {c, q}; }
    return new int[][] {from, to};
  }

  static TreeSet<Integer> labels(List<Cross> d) {
    TreeSet<Integer> s = new TreeSet<>();
    for (Cross c : d) for (int x : c.l) s.add(x);
    return s;
  }

  /** Null when it is a diagram, or {rule, number}. */
  static int[] broken(List<Cross> d) {
    for (int l : labels(d)) {
      int n = 0;
      for (Cross c : d) for (int x : c.l) if (x == l) n++;
      if (n != 2) return new int[] {1, l};
    }
    for (int l : labels(d)) {
      int[][] e = ends(d, l);
      if (e[0] == null || e[1] == null) return new int[] {2, l};
    }
    List<List<Integer>> faces = faces(d);
    for (TreeSet<Integer> piece : pieces(d)) {
      int n = 0;
      for (List<Integer> f : faces) if (piece.contains(ends(d, Math.abs(f.get(0)))[0][0])) n++;
      if (n != piece.size() + 2) return new int[] {3, piece.first()};
    }
    return null;
  }

  static List<TreeSet<Integer>> pieces(List<Cross> d) {
    List<TreeSet<Integer>> all = new ArrayList<>();
    Set<Integer> done = new HashSet<>();
    for (int c = 0; c < d.size(); c++) {
      if (done.contains(c)) continue;
      TreeSet<Integer> piece = new TreeSet<>(List.of(c));
      boolean grew = true;
      while (grew) {
        grew = false;
        for (int l : labels(d)) {
          int[][] e = ends(d, l);
          if (piece.contains(e[0][0]) != piece.contains(e[1][0])) { piece.add(e[0][0]); piece.add(e[1][0]); grew = true; }
        }
      }
      done.addAll(piece);
      all.add(piece);
    }
    return all;
  }

  static int nextDart(List<Cross> d, int dart) {
    int[][] e = ends(d, Math.abs(dart));
    int[] at = dart > 0 ? e[1] : e[0];
    Cross c = d.get(at[0]);
    int leave = Math.floorMod(at[1] - 1, 4);
    return c.goesOut(leave) ? c.l[leave] : -c.l[leave];
  }

  static List<List<Integer>> faces(List<Cross> d) {
    List<List<Integer>> all = new ArrayList<>();
    Set<Integer> done = new HashSet<>();
    for (int l : labels(d))
      for (int dart : new int[] {l, -l}) {
        if (done.contains(dart)) continue;
        List<Integer> f = new ArrayList<>();
        int x = dart;
        do { f.add(x); done.add(x); x = nextDart(d, x); } while (x != dart);
        all.add(f);
      }
    return all;
  }

  static int next(List<Cross> d, int label) {
    int[] at = ends(d, label)[1];
    return d.get(at[0]).l[at[1] ^ 2];
  }

  static int ahead(List<Cross> d, int label) {
    int[] at = ends(d, label)[0];
    return d.get(at[0]).l[at[1] ^ 2];
  }

  static List<List<Integer>> components(List<Cross> d) {
    List<List<Integer>> all = new ArrayList<>();
    Set<Integer> done = new HashSet<>();
    for (int l : labels(d)) {
      if (done.contains(l)) continue;
      List<Integer> round = new ArrayList<>();
      int x = l;
      do { round.add(x); done.add(x); x = next(d, x); } while (x != l);
      all.add(round);
    }
    return all;
  }

  /** Arcs as sets of labels, without circles. */
  static List<Set<Integer>> arcs(List<Cross> d) {
    List<Set<Integer>> all = new ArrayList<>();
    for (int l : labels(d)) all.add(new TreeSet<>(List.of(l)));
    for (Cross c : d) {
      Set<Integer> a = null;
      Set<Integer> b = null;
      for (Set<Integer> s : all) { if (s.contains(c.l[1])) a = s; if (s.contains(c.l[3])) b = s; }
      if (a != b) { a.addAll(b); final Set<Integer> gone = b; all.removeIf(s -> s == gone); }
    }
    return all;
  }

  static int seifert(List<Cross> d) {
    int n = 0;
    Set<Integer> done = new HashSet<>();
    for (int l : labels(d)) {
      if (done.contains(l)) continue;
      n++;
      int x = l;
      do {
        done.add(x);
        int[] at = ends(d, x)[1];
        Cross c = d.get(at[0]);
        int straight = at[1] ^ 2;
        int go = -1;
        for (int q = 0; q < 4; q++) if (c.goesOut(q) && q != straight) go = q;
        x = c.l[go];
      } while (x != l);
    }
    return n;
  }

  static boolean alternating(List<Cross> d) {
    for (int l : labels(d)) {
      int[][] e = ends(d, l);
      boolean a = e[0][1] % 2 == 1;
      boolean b = e[1][1] % 2 == 1;
      if (a == b) return false;
    }
    return true;
  }

  static int deed(List<Cross> d, List<Integer> face) {
    if (face.size() == 1) return 1;
    if (face.size() > 3) return 0;
    Set<Integer> at = new HashSet<>();
    List<Integer> uppers = new ArrayList<>();
    for (int dart : face) {
      int[][] e = ends(d, Math.abs(dart));
      at.add(dart > 0 ? e[1][0] : e[0][0]);
      uppers.add(e[0][1] % 2 + e[1][1] % 2);
    }
    if (at.size() != face.size()) return 0;
    uppers.sort(null);
    if (face.size() == 2) return uppers.equals(List.of(0, 2)) ? 2 : 0;
    return uppers.equals(List.of(0, 1, 2)) ? 3 : 0;
  }

  // ---------------------------------------------------------------- the engine's diagram and its moves

  List<Cross> d = new ArrayList<>();
  int circles;

  private static List<Cross> copy(List<Cross> d) {
    List<Cross> c = new ArrayList<>();
    for (Cross x : d) c.add(new Cross(x));
    return c;
  }

  /** Joins pairs of edges: {a, b}, then {c, d}; the crossing is gone already. */
  private void join(int a, int b, int e, int f) {
    if (a == b) circles++;
    int keep = Math.min(a, b);
    int gone = Math.max(a, b);
    for (Cross c : d) for (int q = 0; q < 4; q++) if (c.l[q] == gone) c.l[q] = keep;
    if (e == gone) e = keep;
    if (f == gone) f = keep;
    if (e == f) { circles++; return; }
    int keep2 = Math.min(e, f);
    int gone2 = Math.max(e, f);
    for (Cross c : d) for (int q = 0; q < 4; q++) if (c.l[q] == gone2) c.l[q] = keep2;
  }

  private void lift(Cross c) {
    d.remove(c);
    join(c.l[0], c.l[2], c.l[c.in()], c.l[c.out()]);
  }

  private int[] free(int n) {
    int[] f = new int[n];
    int k = 0;
    for (int l = 1; k < n; l++) if (!labels(d).contains(l)) f[k++] = l;
    return f;
  }

  /** How many went, or -1 with everything as it was. */
  private int undo(int face) {
    List<List<Integer>> all = faces(d);
    if (face >= all.size()) return -1;
    List<Integer> f = all.get(face);
    int deed = deed(d, f);
    if (deed != 1 && deed != 2) return -1;
    List<Cross> keep = copy(d);
    int keepCircles = circles;
    TreeSet<Integer> at = new TreeSet<>();
    for (int dart : f) at.add(ends(d, Math.abs(dart))[dart > 0 ? 1 : 0][0]);
    List<Cross> go = new ArrayList<>();
    for (int c : at) go.add(d.get(c));
    for (Cross c : go) lift(c);
    if (circles > 20) { d = keep; circles = keepCircles; return -1; }
    return deed;
  }

  private boolean slide(int face) {
    List<List<Integer>> all = faces(d);
    if (face >= all.size() || deed(d, all.get(face)) != 3) return false;
    List<Cross> now = copy(d);
    for (int dart : all.get(face)) {
      int m = Math.abs(dart);
      int[][] e = ends(d, m);
      int a = ahead(d, m);
      int b = next(d, m);
      Cross p = now.get(e[0][0]);
      Cross q = now.get(e[1][0]);
      p.l[e[0][1] ^ 2] = m;
      p.l[e[0][1]] = b;
      q.l[e[1][1]] = a;
      q.l[e[1][1] ^ 2] = m;
    }
    d = now;
    return true;
  }

  /** A crossing with its strands' labels in and out. */
  private static Cross cross(int sign, int lowIn, int lowOut, int upIn, int upOut) {
    return sign == 1 ? new Cross(1, lowIn, upOut, lowOut, upIn) : new Cross(-1, lowIn, upIn, lowOut, upOut);
  }

  private boolean twist(int label, int sign, boolean over) {
    if (d.size() + 1 > 20) return false;
    int[] f = free(2);
    int first;
    if (label == 0) {
      if (circles == 0) return false;
      circles--;
      first = f[1];
    } else {
      if (!labels(d).contains(label)) return false;
      int[] to = ends(d, label)[1];
      d.get(to[0]).l[to[1]] = f[1];
      first = label;
    }
    d.add(over ? cross(sign, f[0], f[1], first, f[0]) : cross(sign, first, f[0], f[0], f[1]));
    return true;
  }

  private boolean push(int x, boolean over, int y) {
    int lx = Math.abs(x);
    int ly = Math.abs(y);
    if (d.size() + 2 > 20 || lx == ly || !labels(d).contains(lx) || !labels(d).contains(ly)) return false;
    boolean oneFace = false;
    for (List<Integer> f : faces(d)) oneFace |= f.contains(x) && f.contains(y);
    boolean onePiece = false;
    for (TreeSet<Integer> p : pieces(d)) onePiece |= p.contains(ends(d, lx)[0][0]) && p.contains(ends(d, ly)[0][0]);
    if (!oneFace && onePiece) return false;
    int[] f = free(4);
    int[] toX = ends(d, lx)[1];
    int[] toY = ends(d, ly)[1];
    d.get(toX[0]).l[toX[1]] = f[1];
    d.get(toY[0]).l[toY[1]] = f[3];
    int[] partsX = {lx, f[0], f[1]};
    int[] partsY = {ly, f[2], f[3]};
    // Which of its two crossings an edge comes to first, in its own direction: 0 is M, 1 is N.
    int[] orderX = x > 0 ? new int[] {0, 1} : new int[] {1, 0};
    int[] orderY = y > 0 ? new int[] {1, 0} : new int[] {0, 1};
    for (int k = 0; k < 2; k++) {
      int i = orderX[0] == k ? 0 : 1;
      int j = orderY[0] == k ? 0 : 1;
      // x's dart goes north; y's dart goes west at M, east at N.
      double[] dx = {0, x > 0 ? 1 : -1};
      double[] dy = {(k == 0 ? -1 : 1) * (y > 0 ? 1 : -1), 0};
      double[] up = over ? dx : dy;
      double[] low = over ? dy : dx;
      // Sign 1: the lower one goes north, the upper one from place 3 (west) to place 1 (east).
      int sign = up[0] * low[1] - up[1] * low[0] > 0 ? 1 : -1;
      d.add(over ? cross(sign, partsY[j], partsY[j + 1], partsX[i], partsX[i + 1]) : cross(sign, partsX[i], partsX[i + 1], partsY[j], partsY[j + 1]));
    }
    return true;
  }

  private static Cross begun(Cross c, int sign, int q) {
    return new Cross(sign, c.l[q % 4], c.l[(q + 1) % 4], c.l[(q + 2) % 4], c.l[(q + 3) % 4]);
  }

  private boolean change(int k) {
    if (k >= d.size()) return false;
    Cross c = d.get(k);
    d.set(k, begun(c, -c.sign, c.in()));
    return true;
  }

  private boolean reverse(int k) {
    List<List<Integer>> all = components(d);
    if (k >= all.size()) return k < all.size() + circles;
    List<Integer> round = all.get(k);
    for (int i = 0; i < d.size(); i++) {
      Cross c = d.get(i);
      boolean low = round.contains(c.l[0]);
      boolean up = round.contains(c.l[1]);
      d.set(i, begun(c, low != up ? -c.sign : c.sign, low ? 2 : 0));
    }
    return true;
  }

  private boolean smooth(int k) {
    if (k >= d.size()) return false;
    List<Cross> keep = copy(d);
    int keepCircles = circles;
    Cross c = d.remove(k);
    join(c.l[0], c.l[c.out()], c.l[c.in()], c.l[2]);
    if (circles > 20) { d = keep; circles = keepCircles; return false; }
    return true;
  }

  private void number() {
    Map<Integer, Integer> to = new TreeMap<>();
    for (List<Integer> round : components(d)) for (int l : round) to.put(l, to.size() + 1);
    for (Cross c : d) for (int q = 0; q < 4; q++) c.l[q] = to.get(c.l[q]);
  }

  int signs() { int s = 0; for (Cross c : d) s += c.sign; return s; }

  // ---------------------------------------------------------------- braids

  static final class Word {
    int n = 1; int[] letters = {};
    int turns; List<int[]> row = new ArrayList<>();

    /** TURN's inverses to the front first, then single letters, then exchanges until none is left. */
    void findForm() {
      turns = 0;
      row.clear();
      List<int[]> all = new ArrayList<>();
      for (int letter : letters) {
        int i = Math.abs(letter);
        int[] s = new int[n + 1];
        for (int p = 1; p <= n; p++) s[p] = letter > 0 ? p : n + 1 - p;
        for (int p = 1; p <= n; p++) if (s[p] == i) s[p] = i + 1; else if (s[p] == i + 1) s[p] = i;
        if (letter < 0) {
          turns--;
          List<int[]> turned = new ArrayList<>();
          for (int[] o : all) { int[] t = new int[n + 1]; for (int p = 1; p <= n; p++) t[p] = n + 1 - o[n + 1 - p]; turned.add(t); }
          all = turned;
        }
        all.add(s);
      }
      boolean moved = true;
      while (moved) {
        moved = false;
        for (int k = 0; k + 1 < all.size(); k++)
          for (int i = 1; i < n; i++) {
            int[] s = all.get(k);
            int[] t = all.get(k + 1);
            if (t[i] > t[i + 1] && where(s, i) < where(s, i + 1)) {
              int a = where(s, i);
              int b = where(s, i + 1);
              s[a] = i + 1; s[b] = i;
              int x = t[i]; t[i] = t[i + 1]; t[i + 1] = x;
              moved = true;
            }
          }
      }
      for (int[] s : all) {
        boolean turn = true;
        boolean none = true;
        for (int p = 1; p <= n; p++) { turn &= s[p] == n + 1 - p; none &= s[p] == p; }
        if (none) continue;
        if (turn) turns++; else row.add(s);
      }
    }

    static int where(int[] s, int v) { for (int p = 1; p < s.length; p++) if (s[p] == v) return p; return -1; }
  }

  Word latest = new Word();
  Word before = new Word();

  private void close(Word w) {
    List<Cross> now = new ArrayList<>();
    int[] at = new int[w.n + 1];
    for (int p = 1; p <= w.n; p++) at[p] = p;
    for (int k = 0; k < w.letters.length; k++) {
      int i = Math.abs(w.letters[k]);
      int topLeft = at[i];
      int topRight = at[i + 1];
      int lowLeft = w.n + 2 * k + 1;
      int lowRight = w.n + 2 * k + 2;
      if (w.letters[k] > 0) now.add(new Cross(1, topLeft, lowLeft, lowRight, topRight));
      else now.add(new Cross(-1, topRight, topLeft, lowLeft, lowRight));
      at[i] = lowLeft;
      at[i + 1] = lowRight;
    }
    circles = 0;
    for (int p = 1; p <= w.n; p++) {
      if (at[p] == p) circles++;
      for (Cross c : now) for (int q = 0; q < 4; q++) if (c.l[q] == at[p]) c.l[q] = p;
    }
    d = now;
  }

  // ---------------------------------------------------------------- polynomials

  static void add(TreeMap<Integer, BigInteger> p, int e, BigInteger c) {
    p.merge(e, c, BigInteger::add);
    if (p.get(e).signum() == 0) p.remove(e);
  }

  static TreeMap<Integer, BigInteger> times(TreeMap<Integer, BigInteger> a, TreeMap<Integer, BigInteger> b) {
    TreeMap<Integer, BigInteger> r = new TreeMap<>();
    for (Map.Entry<Integer, BigInteger> x : a.entrySet())
      for (Map.Entry<Integer, BigInteger> y : b.entrySet()) add(r, x.getKey() + y.getKey(), x.getValue().multiply(y.getValue()));
    return r;
  }

  static TreeMap<Integer, BigInteger> bracket(List<Cross> d, int circles) {
    TreeMap<Integer, BigInteger> sum = new TreeMap<>();
    if (d.isEmpty() && circles == 0) { sum.put(0, BigInteger.ONE); return sum; }
    List<TreeMap<Integer, BigInteger>> powers = new ArrayList<>();
    TreeMap<Integer, BigInteger> one = new TreeMap<>(Map.of(0, BigInteger.ONE));
    TreeMap<Integer, BigInteger> circle = new TreeMap<>(Map.of(2, BigInteger.ONE.negate(), -2, BigInteger.ONE.negate()));
    powers.add(one);
    while (powers.size() < 40) powers.add(times(powers.get(powers.size() - 1), circle));
    for (int s = 0; s < 1 << d.size(); s++) {
      int[] up = new int[4 * d.size()];
      for (int i = 0; i < up.length; i++) up[i] = i;
      int a = 0;
      for (int l : labels(d)) { int[][] e = ends(d, l); union(up, 4 * e[0][0] + e[0][1], 4 * e[1][0] + e[1][1]); }
      for (int c = 0; c < d.size(); c++) {
        boolean isA = (s >> c & 1) == 1;
        a += isA ? 1 : -1;
        union(up, 4 * c + (isA ? 0 : 1), 4 * c + (isA ? 1 : 2));
        union(up, 4 * c + (isA ? 2 : 3), 4 * c + (isA ? 3 : 0));
      }
      int n = circles;
      for (int i = 0; i < up.length; i++) if (up[i] == i) n++;
      for (Map.Entry<Integer, BigInteger> t : powers.get(n - 1).entrySet()) add(sum, t.getKey() + a, t.getValue());
    }
    return sum;
  }

  private static int root(int[] up, int i) { while (up[i] != i) i = up[i]; return i; }

  private static void union(int[] up, int a, int b) { up[root(up, a)] = root(up, b); }

  static TreeMap<Integer, BigInteger> jones(List<Cross> d, int circles) {
    int w = 0;
    for (Cross c : d) w += c.sign;
    TreeMap<Integer, BigInteger> r = new TreeMap<>();
    for (Map.Entry<Integer, BigInteger> t : bracket(d, circles).entrySet())
      r.put(t.getKey() - 3 * w, w % 2 == 0 ? t.getValue() : t.getValue().negate());
    return r;
  }

  /** The greatest common divisor of all minors, each of them expanded. */
  static TreeMap<Integer, BigInteger> alexander(List<Cross> d, int circles) {
    List<Set<Integer>> arcs = arcs(d);
    int columns = arcs.size() + circles;
    int order = columns - 1;
    TreeMap<Integer, BigInteger> zero = new TreeMap<>();
    if (order < 0 || order > d.size()) return zero;
    Poly[][] m = new Poly[d.size()][columns];
    for (int r = 0; r < d.size(); r++) {
      for (int k = 0; k < columns; k++) m[r][k] = new Poly();
      Cross c = d.get(r);
      int x = -1;
      int y = -1;
      int z = -1;
      for (int k = 0; k < arcs.size(); k++) {
        if (arcs.get(k).contains(c.l[0])) x = k;
        if (arcs.get(k).contains(c.l[2])) y = k;
        if (arcs.get(k).contains(c.l[1])) z = k;
      }
      int first = c.sign == 1 ? x : y;
      int second = c.sign == 1 ? y : x;
      m[r][first] = m[r][first].plus(new Poly(0, 1));
      m[r][second] = m[r][second].plus(new Poly(-1));
      m[r][z] = m[r][z].plus(new Poly(1, -1));
    }
    Poly gcd = new Poly();
    for (int rows : sets(d.size(), order))
      for (int cols : sets(columns, order)) gcd = gcd.gcd(minor(m, rows, cols));
    return gcd.normal();
  }

  private static List<Integer> sets(int of, int size) {
    List<Integer> all = new ArrayList<>();
    for (int s = 0; s < 1 << of; s++) if (Integer.bitCount(s) == size) all.add(s);
    return all;
  }

  /** By elimination without fractions: each division goes up. */
  private static Poly minor(Poly[][] m, int rows, int cols) {
    int n = Integer.bitCount(rows);
    if (n == 0) return new Poly(1);
    Poly[][] a = new Poly[n][n];
    for (int r = 0, i = 0; r < m.length; r++) {
      if ((rows >> r & 1) == 0) continue;
      for (int c = 0, j = 0; c < m[r].length; c++) if ((cols >> c & 1) == 1) a[i][j++] = m[r][c];
      i++;
    }
    Poly last = new Poly(1);
    boolean minus = false;
    for (int k = 0; k < n - 1; k++) {
      int pivot = k;
      while (pivot < n && a[pivot][k].isZero()) pivot++;
      if (pivot == n) return new Poly();
      if (pivot != k) { Poly[] t = a[pivot]; a[pivot] = a[k]; a[k] = t; minus = !minus; }
      for (int i = k + 1; i < n; i++)
        for (int j = k + 1; j < n; j++) a[i][j] = a[i][j].times(a[k][k]).plus(a[i][k].times(a[k][j]).negate()).over(last);
      last = a[k][k];
    }
    return minus ? a[n - 1][n - 1].negate() : a[n - 1][n - 1];
  }

  /** A polynomial in t, lowest exponent 0. */
  static final class Poly {
    final BigInteger[] c;
    Poly(long... c) { this.c = trim(Arrays.stream(c).mapToObj(BigInteger::valueOf).toArray(BigInteger[]::new)); }
    Poly(BigInteger[] c) { this.c = trim(c); }
    private static BigInteger[] trim(BigInteger[] c) { int n = c.length; while (n > 0 && c[n - 1].signum() == 0) n--; return Arrays.copyOf(c, n); }
    boolean isZero() { return c.length == 0; }
    BigInteger at(int i) { return i < c.length ? c[i] : BigInteger.ZERO; }
    BigInteger lead() { return c[c.length - 1]; }
    Poly plus(Poly o) { BigInteger[] r = new BigInteger[Math.max(c.length, o.c.length)]; for (int i = 0; i < r.length; i++) r[i] = at(i).add(o.at(i)); return new Poly(r); }
    Poly negate() { BigInteger[] r = c.clone(); for (int i = 0; i < r.length; i++) r[i] = r[i].negate(); return new Poly(r); }
    Poly times(Poly o) {
      BigInteger[] r = new BigInteger[c.length + o.c.length + 1];
      Arrays.fill(r, BigInteger.ZERO);
      for (int i = 0; i < c.length; i++) for (int j = 0; j < o.c.length; j++) r[i + j] = r[i + j].add(c[i].multiply(o.c[j]));
      return new Poly(r);
    }
    Poly over(Poly o) {
      BigInteger[] q = new BigInteger[Math.max(1, c.length - o.c.length + 1)];
      Arrays.fill(q, BigInteger.ZERO);
      Poly rest = this;
      while (!rest.isZero()) {
        int e = rest.c.length - o.c.length;
        BigInteger[] qr = rest.lead().divideAndRemainder(o.lead());
        if (e < 0 || qr[1].signum() != 0) throw new IllegalStateException("no divisor");
        q[e] = qr[0];
        BigInteger[] s = new BigInteger[e + 1];
        Arrays.fill(s, BigInteger.ZERO);
        s[e] = qr[0];
        rest = rest.plus(o.times(new Poly(s)).negate());
      }
      return new Poly(q);
    }
    BigInteger content() { BigInteger g = BigInteger.ZERO; for (BigInteger x : c) g = g.gcd(x); return g; }
    Poly primitive() { return isZero() ? this : over(new Poly(new BigInteger[] {content()})); }
    Poly gcd(Poly o) {
      if (isZero()) return o;
      if (o.isZero()) return this;
      BigInteger g = content().gcd(o.content());
      Poly a = primitive();
      Poly b = o.primitive();
      while (!b.isZero()) {
        Poly r = a;
        while (r.c.length >= b.c.length) {
          BigInteger[] s = new BigInteger[r.c.length - b.c.length + 1];
          Arrays.fill(s, BigInteger.ZERO);
          s[s.length - 1] = r.lead();
          r = r.times(new Poly(new BigInteger[] {b.lead()})).plus(b.times(new Poly(s)).negate());
        }
        a = b;
        b = r.primitive();
      }
      return a.times(new Poly(new BigInteger[] {g}));
    }
    TreeMap<Integer, BigInteger> normal() {
      TreeMap<Integer, BigInteger> r = new TreeMap<>();
      int low = 0;
      while (low < c.length && c[low].signum() == 0) low++;
      for (int i = low; i < c.length; i++) if (c[i].signum() != 0) r.put(i - low, c[low].signum() < 0 ? c[i].negate() : c[i]);
      return r;
    }
  }

  // ---------------------------------------------------------------- the engine

  final List<Integer> tape = new ArrayList<>();
  StringBuilder out = new StringBuilder();
  List<Line> lines = new ArrayList<>();
  boolean hasRead;
  int faultCode;
  int faultPlace = -1;
  int done;
  int sums;

  int feed(int... five) {
    if (tape.size() + 20 > 4000) return -1;
    for (int x : five) for (int s = 24; s >= 0; s -= 8) tape.add(x >>> s & 255);
    return tape.size();
  }

  int read(int n) {
    if (n < 0 || n > tape.size()) return -2;
    int[] text = tape.subList(0, n).stream().mapToInt(i -> i).toArray();
    tape.clear();
    hasRead = true;
    lines = new ArrayList<>();
    faultCode = 0;
    faultPlace = -1;
    try {
      lines = parse(text);
      return lines.size();
    } catch (Fault f) {
      faultCode = f.code;
      faultPlace = f.place;
      return -1;
    }
  }

  int fault(int what) { return !hasRead ? -1 : what == 0 ? faultCode : what == 1 ? faultPlace : -1; }

  int run(int n) {
    if (n < 0 || n > 16) return -1;
    int k = 0;
    while (k < n && !lines.isEmpty()) {
      Line line = lines.get(0);
      if (done == 2000 || line.kind >= 16 && sums == 200) break;
      List<Cross> keep = copy(d);
      int keepCircles = circles;
      Word keepLatest = latest;
      Word keepBefore = before;
      String text = perform(line);
      if (out.length() + text.length() > 4000) {
        d = keep;
        circles = keepCircles;
        latest = keepLatest;
        before = keepBefore;
        break;
      }
      out.append(text);
      lines.remove(0);
      k++;
      done++;
      if (line.kind >= 16) { sums++; break; }
    }
    return k;
  }

  private String perform(Line line) {
    switch (line.kind) {
      case 1: return code(line);
      case 2: return braid(line);
      case 3: { int n = undo(line.at(0)); return n < 0 ? "# no\n" : "# undone " + n + "\n"; }
      case 4: return ok(slide(line.at(0)));
      case 5: return ok(twist(line.at(0), line.at(1), line.at(2) == 1));
      case 6: return ok(push(line.at(0), line.at(1) == 1, line.at(2)));
      case 7: {
        int n = 0;
        for (boolean more = true; more;) {
          more = false;
          for (int f = 0; f < faces(d).size() && !more; f++) { int u = undo(f); if (u > 0) { n += u; more = true; } }
        }
        return "# undone " + n + "\n";
      }
      case 8: for (int c = 0; c < d.size(); c++) change(c); return "# ok\n";
      case 9: return ok(reverse(line.at(0)));
      case 10: return ok(change(line.at(0)));
      case 11: return ok(smooth(line.at(0)));
      case 12: number(); return "# ok\n";
      case 13: return printDiagram(d, circles);
      case 14: return "# " + d.size() + " " + circles + " " + (components(d).size() + circles) + " " + (pieces(d).size() + circles) + " "
        + faces(d).size() + " " + (arcs(d).size() + circles) + " " + (seifert(d) + circles) + " " + signs() + " " + (alternating(d) ? 1 : 0) + "\n";
      case 15: {
        List<List<Integer>> all = faces(d);
        String s = "# " + all.size() + "\n";
        for (int f = 0; f < all.size(); f++) {
          s += "# " + f + " " + deed(d, all.get(f));
          for (int dart : all.get(f)) s += " " + dart;
          s += "\n";
        }
        return s;
      }
      default: return polynomial(line);
    }
  }

  private static String ok(boolean b) { return b ? "# ok\n" : "# no\n"; }

  private String code(Line line) {
    List<Cross> now = new ArrayList<>();
    int n = line.numbers.size() / 5;
    int o = line.at(5 * n);
    boolean zero = o > 20;
    for (int c = 0; c < n; c++) {
      now.add(new Cross(line.at(5 * c), line.at(5 * c + 1), line.at(5 * c + 2), line.at(5 * c + 3), line.at(5 * c + 4)));
      for (int l : now.get(c).l) zero |= l == 0;
    }
    if (zero) return "# no 0\n";
    int[] b = broken(now);
    if (b != null) return "# no " + b[0] + " " + b[1] + "\n";
    d = now;
    circles = o;
    return "# ok\n";
  }

  private String braid(Line line) {
    Word w = new Word();
    w.n = line.at(0);
    w.letters = line.numbers.stream().skip(1).mapToInt(BigInteger::intValue).toArray();
    boolean good = w.n >= 1 && w.n <= 8 && w.letters.length <= 20;
    for (int x : w.letters) good &= x != 0 && Math.abs(x) < w.n;
    if (!good) return "# no\n";
    w.findForm();
    close(w);
    before = latest;
    latest = w;
    return "# ok\n";
  }

  private String polynomial(Line line) {
    if (circles > 9 || d.size() > 10) return "# many\n";
    TreeMap<Integer, BigInteger> p = line.kind == 16 ? bracket(d, circles) : line.kind == 17 ? jones(d, circles) : alexander(d, circles);
    if (line.numbers.isEmpty()) return printPolynomial(line.kind, p);
    TreeMap<Integer, BigInteger> q = new TreeMap<>();
    for (int i = 0; i < line.numbers.size(); i += 2) add(q, line.at(i + 1), line.numbers.get(i));
    return q.equals(p) ? "# yes\n" : "# no\n";
  }

  int state(int what) {
    switch (what) {
      case 0: return lines.size();
      case 1: return lines.isEmpty() ? 0 : lines.get(0).kind;
      case 2: return d.size();
      case 3: return circles;
      case 4: return signs();
      case 5: return components(d).size() + circles;
      case 6: return out.length();
      case 7: return tape.size();
      default: return -1000;
    }
  }

  int crossing(int k, int what) {
    if (k < 0 || k >= d.size() || what < 0 || what > 4) return 0;
    return what == 4 ? d.get(k).sign : d.get(k).l[what];
  }

  int printed(int i) { return i < 0 || i >= out.length() ? -1 : out.charAt(i); }

  int wipe(boolean toTape) {
    int n = out.length();
    if (toTape) { tape.clear(); for (int i = 0; i < n; i++) tape.add((int) out.charAt(i)); }
    out = new StringBuilder();
    return n;
  }

  boolean same() {
    if (latest.n != before.n || latest.turns != before.turns || latest.row.size() != before.row.size()) return false;
    for (int i = 0; i < latest.row.size(); i++) if (!Arrays.equals(latest.row.get(i), before.row.get(i))) return false;
    return true;
  }

  int form(boolean b, int j, int p) {
    Word w = b ? before : latest;
    if (j == 0) return w.turns;
    return j < 0 || j > w.row.size() || p < 1 || p > w.n ? 0 : w.row.get(j - 1)[p];
  }

  int length(boolean b) { return (b ? before : latest).row.size(); }
}
