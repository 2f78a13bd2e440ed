import java.util.ArrayList;
import java.util.Arrays;
import java.util.List;
import java.util.Random;

/** Normal forms against what a braid does to a free group: two words are one braid just when they do the same. */
public final class BraidTest {
  private static final Random RANDOM = new Random(11);

  public static void main(String[] args) {
    for (int i = 0; i < 3000; i++) words(2 + RANDOM.nextInt(i % 3 == 0 ? 7 : 3), RANDOM.nextInt(i % 2 == 0 ? 21 : 7));
    Checks.end();
  }

  private static void words(int n, int length) {
    int[] one = new int[length];
    for (int i = 0; i < length; i++) one[i] = (1 + RANDOM.nextInt(n - 1)) * (RANDOM.nextInt(3) == 0 ? -1 : 1);
    int[] other = RANDOM.nextInt(4) == 0 && length < 7 ? new int[] {} : rewritten(n, one);
    if (RANDOM.nextInt(4) == 0 && other.length > 0) other[RANDOM.nextInt(other.length)] *= -1;
    LinkEngine x = new LinkEngine();
    Checks.answer(x, "braid " + n + text(one) + "\nbraid " + n + text(other) + "\n");
    boolean same = Arrays.deepEquals(action(n, one), action(n, other));
    Checks.due("same of " + n + text(one) + " and" + text(other), x.same(), same);
    check(x, true, n, one);
    check(x, false, n, other);
  }

  private static String text(int[] word) {
    StringBuilder s = new StringBuilder();
    for (int l : word) s.append(' ').append(l);
    return s.toString();
  }

  /** Steps that leave the braid as it is. */
  private static int[] rewritten(int n, int[] word) {
    List<Integer> w = new ArrayList<>();
    for (int l : word) w.add(l);
    for (int step = 0; step < 60; step++) {
      int at = RANDOM.nextInt(w.size() + 1);
      int i = (1 + RANDOM.nextInt(n - 1)) * (RANDOM.nextBoolean() ? 1 : -1);
      if (RANDOM.nextInt(6) == 0 && w.size() + 2 <= 20) { w.add(at, -i); w.add(at, i); continue; }
      if (at + 1 >= w.size()) continue;
      int a = w.get(at);
      int b = w.get(at + 1);
      if (a == -b) { w.remove(at); w.remove(at); continue; }
      if (Math.abs(Math.abs(a) - Math.abs(b)) > 1) { w.set(at, b); w.set(at + 1, a); continue; }
      if (at + 2 >= w.size() || Math.abs(a - b) != 1 || w.get(at + 2) != a || a > 0 != b > 0) continue;
      w.set(at, b); w.set(at + 1, a); w.set(at + 2, b);
    }
    return w.stream().mapToInt(l -> l).toArray();
  }

  private static void check(LinkEngine x, boolean before, int n, int[] word) {
    String name = "form of " + n + text(word);
    int k = x.form(before, 0, 0);
    int m = x.length(before);
    List<Integer> w = new ArrayList<>();
    int[] turn = new int[n + 1];
    for (int p = 1; p <= n; p++) turn[p] = n + 1 - p;
    for (int i = 0; i < Math.abs(k); i++) w.addAll(k > 0 ? letters(turn) : inverse(letters(turn)));
    int[] last = null;
    for (int j = 1; j <= m; j++) {
      int[] s = new int[n + 1];
      for (int p = 1; p <= n; p++) s[p] = x.form(before, j, p);
      Checks.due(name + ": TURN", Arrays.equals(s, turn), false);
      Checks.due(name + ": NONE", letters(s).isEmpty(), false);
      for (int i = 1; i < n && last != null; i++)
        if (s[i] > s[i + 1]) Checks.due(name + ": cross behind one another", where(last, i) > where(last, i + 1), true);
      w.addAll(letters(s));
      last = s;
    }
    int[] all = w.stream().mapToInt(l -> l).toArray();
    Checks.due(name, Arrays.deepEquals(action(n, all), action(n, word)), true);
  }

  private static int where(int[] s, int v) { for (int p = 1; p < s.length; p++) if (s[p] == v) return p; return 0; }

  /** A word for the simple braid of a permutation: strands are sorted, each two that cross just once. */
  private static List<Integer> letters(int[] s) {
    int[] end = s.clone();
    List<Integer> w = new ArrayList<>();
    for (boolean more = true; more;) {
      more = false;
      for (int i = 1; i + 1 < end.length; i++)
        if (end[i] > end[i + 1]) { int e = end[i]; end[i] = end[i + 1]; end[i + 1] = e; w.add(i); more = true; }
    }
    return w;
  }

  private static List<Integer> inverse(List<Integer> w) {
    List<Integer> r = new ArrayList<>();
    for (int i = w.size() - 1; i >= 0; i--) r.add(-w.get(i));
    return r;
  }

  /** Artin's action: what becomes of each generator, as a reduced word. */
  private static int[][] action(int n, int[] word) {
    int[][] image = new int[n + 1][];
    for (int g = 1; g <= n; g++) image[g] = new int[] {g};
    image[0] = new int[0];
    // The first letter's rule is put in last: images are built from the back on.
    for (int k = word.length - 1; k >= 0; k--) {
      int i = Math.abs(word[k]);
      int[] a = image[i];
      int[] b = image[i + 1];
      if (word[k] > 0) { image[i] = product(a, b, inverse(a)); image[i + 1] = a; }
      else { image[i + 1] = product(inverse(b), a, b); image[i] = b; }
    }
    return image;
  }

  private static int[] inverse(int[] w) {
    int[] r = new int[w.length];
    for (int i = 0; i < w.length; i++) r[i] = -w[w.length - 1 - i];
    return r;
  }

  private static int[] product(int[]... parts) {
    int n = 0;
    for (int[] p : parts) n += p.length;
    int[] r = new int[n];
    int k = 0;
    for (int[] p : parts) for (int l : p) if (k > 0 && r[k - 1] == -l) k--; else r[k++] = l;
    return Arrays.copyOf(r, k);
  }
}
