import java.math.BigInteger;
import java.util.ArrayList;
import java.util.Arrays;
import java.util.HashMap;
import java.util.List;
import java.util.Map;
import java.util.TreeSet;

/**
 * The document once more, as near to its words as can be and without a thought of speed: all RULES
 * for all POINTS in all orders, no look at what is TRUE but where the document looks, and ROWS with
 * numbers of any size, one for each LINE that is left. Tests compare AngleChains with it.
 */
final class PlainModel {
  static final int NONE = -1;
  static final int FALSE = -2;
  private static final int[] SIZES = {3, 4, 4, 4, 4, 3, 8};

  final List<int[]> points = new ArrayList<>();
  private final List<Integer> draft = new ArrayList<>();
  private final List<int[]> hypotheses = new ArrayList<>();
  private final List<Boolean> on = new ArrayList<>();
  private List<Integer> left = new ArrayList<>();
  private final Map<List<Integer>, World> worlds = new HashMap<>();

  // ---- THE FIGURE

  private BigInteger coordinate(int p, int axis) {
    return BigInteger.valueOf(points.get(p)[axis]);
  }

  /** The line's vector as a complex number. */
  private BigInteger[] vector(int a, int b) {
    return new BigInteger[] {
      coordinate(b, 0).subtract(coordinate(a, 0)), coordinate(b, 1).subtract(coordinate(a, 1))};
  }

  /** v times the conjugate of u: its angle is the turn from u to v. */
  private static BigInteger[] turnOf(BigInteger[] u, BigInteger[] v) {
    return new BigInteger[] {
      u[0].multiply(v[0]).add(u[1].multiply(v[1])), u[0].multiply(v[1]).subtract(u[1].multiply(v[0]))};
  }

  private BigInteger square(int a, int b) {
    return turnOf(vector(a, b), vector(a, b))[0];
  }

  boolean collinear(int a, int b, int c) {
    return turnOf(vector(a, b), vector(a, c))[1].signum() == 0;
  }

  private boolean proper(int a, int b, int c) {
    return !collinear(a, b, c);
  }

  /** Ptolemy would do as well: here the centre of a, b, c is looked for, as a fraction. */
  private boolean onCircle(int a, int b, int c, int d) {
    if (collinear(a, b, c)) return false;
    BigInteger[] ab = vector(a, b);
    BigInteger[] ac = vector(a, c);
    BigInteger[] ad = vector(a, d);
    BigInteger twice = turnOf(ab, ac)[1].shiftLeft(1);
    BigInteger ox = ac[1].multiply(square(a, b)).subtract(ab[1].multiply(square(a, c)));
    BigInteger oy = ab[0].multiply(square(a, c)).subtract(ac[0].multiply(square(a, b)));
    // |d - o|^2 = |o|^2 with a as the origin and o = (ox, oy) / twice
    BigInteger dot = ad[0].multiply(ox).add(ad[1].multiply(oy)).shiftLeft(1);
    return square(a, d).multiply(twice).equals(dot);
  }

  boolean isTrueFact(int kind, int[] f) {
    switch (kind) {
      case 0: return collinear(f[0], f[1], f[2]);
      case 1: return turnOf(vector(f[0], f[1]), vector(f[2], f[3]))[1].signum() == 0;
      case 2: return turnOf(vector(f[0], f[1]), vector(f[2], f[3]))[0].signum() == 0;
      case 3: return onCircle(f[0], f[1], f[2], f[3]);
      case 4: return square(f[0], f[1]).equals(square(f[2], f[3]));
      case 5: return collinear(f[0], f[1], f[2]) && square(f[0], f[1]).equals(square(f[0], f[2]));
      default: {
        BigInteger[] first = turnOf(vector(f[0], f[1]), vector(f[2], f[3]));
        BigInteger[] second = turnOf(vector(f[4], f[5]), vector(f[6], f[7]));
        return turnOf(first, second)[1].signum() == 0;
      }
    }
  }

  // ---- WHAT FOLLOWS

  private final class World {
    final int n = points.size();
    TreeSet<Integer> lines = new TreeSet<>();
    TreeSet<Integer> circles = new TreeSet<>();
    final List<TreeSet<Integer>> lengths = new ArrayList<>();
    /** Numbers for each pair 12 a + b, the side last. */
    final List<int[]> rows = new ArrayList<>();
    private BigInteger[][] stairs;
    private boolean changed;

    World(List<Integer> numbers) {
      for (int a = 0; a < n; a++) {
        for (int b = a + 1; b < n; b++) {
          lines.add(1 << a | 1 << b);
          lengths.add(new TreeSet<>(List.of(12 * a + b)));
          for (int c = b + 1; c < n; c++) if (proper(a, b, c)) circles.add(1 << a | 1 << b | 1 << c);
        }
      }
      for (int number : numbers) assume(hypotheses.get(number));
      do {
        changed = false;
        rulesOfThree();
        rulesOfFour();
        rulesOfFive();
      } while (changed);
    }

    private void assume(int[] h) {
      int[] f = Arrays.copyOfRange(h, 1, h.length);
      switch (h[0]) {
        case 0: oneLine(f[0], f[1], f[2]); break;
        case 3: oneCircle(f[0], f[1], f[2], f[3]); break;
        case 4: equal(f[0], f[1], f[2], f[3]); break;
        case 5: oneLine(f[0], f[1], f[2]); equal(f[0], f[1], f[0], f[2]); break;
        default: come(rowOf(h[0], f));
      }
    }

    int[] rowOf(int kind, int[] f) {
      if (kind == 1) return row(0, 1, f[0], f[1], -1, f[2], f[3]);
      if (kind == 2) return row(1, 1, f[0], f[1], -1, f[2], f[3]);
      return row(0, 1, f[0], f[1], -1, f[2], f[3], -1, f[4], f[5], 1, f[6], f[7]);
    }

    /** The side, and then a number and the two POINTS of its line, again and again. */
    private int[] row(int side, int... terms) {
      int[] row = new int[12 * 7 + 1];
      for (int i = 0; i < terms.length; i += 3) {
        int a = Math.min(terms[i + 1], terms[i + 2]);
        int b = Math.max(terms[i + 1], terms[i + 2]);
        row[12 * a + b] += terms[i];
      }
      row[12 * 7] = side;
      return row;
    }

    int lineOf(int a, int b) {
      for (int line : lines) if ((line >> a & 1) != 0 && (line >> b & 1) != 0) return line;
      throw new IllegalStateException("no line");
    }

    int circleOf(int a, int b, int c) {
      int three = 1 << a | 1 << b | 1 << c;
      for (int circle : circles) if ((circle & three) == three) return circle;
      return 0;
    }

    TreeSet<Integer> lengthOf(int a, int b) {
      int pair = 12 * Math.min(a, b) + Math.max(a, b);
      for (TreeSet<Integer> length : lengths) if (length.contains(pair)) return length;
      throw new IllegalStateException("no length");
    }

    boolean onLine(int a, int b, int c) {
      return (lineOf(a, b) >> c & 1) != 0;
    }

    boolean onOneCircle(int a, int b, int c, int d) {
      int[][] threes = {{a, b, c, d}, {a, b, d, c}, {a, c, d, b}, {b, c, d, a}};
      for (int[] t : threes) {
        if (proper(t[0], t[1], t[2])) return (circleOf(t[0], t[1], t[2]) >> t[3] & 1) != 0;
      }
      return false;
    }

    boolean same(int a, int b, int c, int d) {
      return lengthOf(a, b) == lengthOf(c, d);
    }

    private TreeSet<Integer> joined(TreeSet<Integer> sets, int bits, int common) {
      int all = bits;
      TreeSet<Integer> rest = new TreeSet<>(sets);
      boolean grew = true;
      while (grew) {
        grew = false;
        for (int set : new ArrayList<>(rest)) {
          if (Integer.bitCount(set & all) >= common) {
            all |= set;
            rest.remove(set);
            grew = true;
          }
        }
      }
      rest.add(all);
      return rest;
    }

    private void oneLine(int a, int b, int c) {
      TreeSet<Integer> now = joined(lines, 1 << a | 1 << b | 1 << c, 2);
      if (!now.equals(lines)) {
        lines = now;
        stairs = null;
        changed = true;
      }
    }

    private void oneCircle(int a, int b, int c, int d) {
      TreeSet<Integer> now = joined(circles, 1 << a | 1 << b | 1 << c | 1 << d, 3);
      if (!now.equals(circles)) {
        circles = now;
        changed = true;
      }
    }

    private void equal(int a, int b, int c, int d) {
      TreeSet<Integer> one = lengthOf(a, b);
      TreeSet<Integer> other = lengthOf(c, d);
      if (one != other) {
        lengths.removeIf(set -> set == other);
        one.addAll(other);
        changed = true;
      }
    }

    private void come(int[] row) {
      if (!follows(row)) {
        rows.add(row);
        stairs = null;
        changed = true;
      }
    }

    // ---- ROWS of the LINES that are left

    private BigInteger[] ofLines(int[] row) {
      List<Integer> columns = new ArrayList<>(lines);
      BigInteger[] numbers = new BigInteger[columns.size() + 1];
      Arrays.fill(numbers, BigInteger.ZERO);
      for (int a = 0; a < n; a++) {
        for (int b = a + 1; b < n; b++) {
          int column = columns.indexOf(lineOf(a, b));
          numbers[column] = numbers[column].add(BigInteger.valueOf(row[12 * a + b]));
        }
      }
      numbers[columns.size()] = BigInteger.valueOf(row[12 * 7]);
      return numbers;
    }

    private BigInteger[][] stairs() {
      if (stairs != null) return stairs;
      int width = lines.size() + 1;
      List<BigInteger[]> rest = new ArrayList<>();
      for (int[] row : rows) rest.add(ofLines(row));
      BigInteger[] two = new BigInteger[width];
      Arrays.fill(two, BigInteger.ZERO);
      two[width - 1] = BigInteger.TWO;
      rest.add(two);
      stairs = new BigInteger[width][];
      for (int c = 0; c < width; c++) {
        BigInteger[] stair = null;
        List<BigInteger[]> next = new ArrayList<>();
        for (BigInteger[] row : rest) {
          BigInteger[] other = row;
          while (other[c].signum() != 0 && stair != null) {
            BigInteger[] remainder = less(stair, stair[c].divide(other[c]), other);
            stair = other;
            other = remainder;
          }
          if (other[c].signum() != 0) stair = other; else next.add(other);
        }
        stairs[c] = stair;
        rest = next;
      }
      return stairs;
    }

    private BigInteger[] less(BigInteger[] row, BigInteger times, BigInteger[] other) {
      BigInteger[] result = new BigInteger[row.length];
      for (int i = 0; i < row.length; i++) result[i] = row[i].subtract(times.multiply(other[i]));
      return result;
    }

    boolean follows(int[] row) {
      BigInteger[] numbers = ofLines(row);
      BigInteger[][] basis = stairs();
      for (int c = 0; c < numbers.length; c++) {
        if (numbers[c].signum() == 0) continue;
        if (basis[c] == null || numbers[c].mod(basis[c][c].abs()).signum() != 0) return false;
        numbers = less(numbers, numbers[c].divide(basis[c][c]), basis[c]);
      }
      return true;
    }

    int countRows() {
      int count = 0;
      BigInteger[][] basis = stairs();
      if (!basis[basis.length - 1][basis.length - 1].abs().equals(BigInteger.TWO)) {
        throw new IllegalStateException("the rows say that 0 is 1");
      }
      for (int c = 0; c + 1 < basis.length; c++) if (basis[c] != null) count++;
      return count;
    }

    // ---- RULES, in all orders of POINTS

    private void rulesOfThree() {
      for (int a = 0; a < n; a++) for (int b = 0; b < n; b++) for (int c = 0; c < n; c++) {
        if (a == b || a == c || b == c) continue;
        if (follows(row(0, 1, a, b, -1, a, c))) oneLine(a, b, c); // 1
        if (!proper(a, b, c)) continue;
        int[] isosceles = row(0, 1, a, b, 1, a, c, -2, b, c);
        if (same(a, b, a, c)) come(isosceles); // 4
        if (follows(isosceles)) equal(a, b, a, c); // 5
      }
    }

    private void rulesOfFour() {
      for (int a = 0; a < n; a++) for (int b = 0; b < n; b++) for (int c = 0; c < n; c++) for (int d = 0; d < n; d++) {
        if (a == b || a == c || a == d || b == c || b == d || c == d) continue;
        int[] seen = row(0, 1, a, c, -1, b, c, -1, a, d, 1, b, d);
        if (onOneCircle(a, b, c, d)) come(seen); // 2
        if (proper(a, b, c) && proper(a, b, d) && follows(seen)) oneCircle(a, b, c, d); // 3
        if (onLine(a, b, d) && same(d, a, d, b) && proper(a, b, c)) { // d is o
          int[] right = row(1, 1, a, c, -1, b, c);
          if (same(d, a, d, c)) come(right); // 6
          if (follows(right)) equal(d, a, d, c); // 7
        }
        if (same(a, c, a, d)) { // a, b are p, q; c, d are a, b
          int[] across = row(1, 1, a, b, -1, c, d);
          if (same(b, c, b, d)) come(across); // 9
          if (follows(across)) equal(b, c, b, d); // 10
        }
        if (proper(a, b, c) && follows(row(0, 1, a, b, -1, c, d)) && follows(row(0, 1, a, c, -1, b, d))) { // 12
          equal(a, b, c, d);
          equal(a, c, b, d);
        }
      }
    }

    private void rulesOfFive() {
      for (int a = 0; a < n; a++) for (int b = 0; b < n; b++) for (int c = 0; c < n; c++) {
        if (a == b || a == c || b == c || !proper(a, b, c)) continue;
        for (int d = 0; d < n; d++) for (int o = 0; o < n; o++) {
          if (d == a || d == b || d == c || o == a || o == b || o == c || o == d) continue;
          if (same(o, a, o, b) && same(o, a, o, c) && same(o, a, o, d)) oneCircle(a, b, c, d); // 8
          // d is m, o is n
          if (onLine(a, b, d) && same(d, a, d, b) && onLine(a, c, o) && same(o, a, o, c)) {
            come(row(0, 1, d, o, -1, b, c)); // 11
          }
        }
      }
    }

    boolean shows(int kind, int[] f) {
      switch (kind) {
        case 0: return onLine(f[0], f[1], f[2]);
        case 3: return onOneCircle(f[0], f[1], f[2], f[3]);
        case 4: return same(f[0], f[1], f[2], f[3]);
        case 5: return onLine(f[0], f[1], f[2]) && same(f[0], f[1], f[0], f[2]);
        default: return follows(rowOf(kind, f));
      }
    }
  }

  private World world(List<Integer> numbers) {
    World world = worlds.get(numbers);
    if (world == null) {
      world = new World(numbers);
      worlds.put(new ArrayList<>(numbers), world);
    }
    return world;
  }

  private List<Integer> onNumbers() {
    List<Integer> numbers = new ArrayList<>();
    for (int i = 0; i < on.size(); i++) if (on.get(i)) numbers.add(i);
    return numbers;
  }

  // ---- the face

  private boolean isPoint(int p) {
    return 0 <= p && p < points.size();
  }

  int point(int x, int y) {
    if (points.size() == 7 || Math.abs((long) x) > 1000 || Math.abs((long) y) > 1000 || !hypotheses.isEmpty()) return NONE;
    for (int[] p : points) if (p[0] == x && p[1] == y) return NONE;
    points.add(new int[] {x, y});
    worlds.clear();
    return points.size() - 1;
  }

  int of(int point) {
    if (!isPoint(point) || draft.size() == 8) return NONE;
    draft.add(point);
    return draft.size();
  }

  private int[] taken(int kind) {
    int[] f = new int[draft.size()];
    for (int i = 0; i < f.length; i++) f[i] = draft.get(i);
    draft.clear();
    if (kind < 0 || kind > 6 || f.length != SIZES[kind]) return null;
    if (kind == 0 || kind == 3 || kind == 5) {
      for (int i = 0; i < f.length; i++) for (int j = 0; j < i; j++) if (f[i] == f[j]) return null;
    } else {
      for (int i = 0; i < f.length; i += 2) if (f[i] == f[i + 1]) return null;
    }
    return f;
  }

  int isTrue(int kind) {
    int[] f = taken(kind);
    return f == null ? NONE : isTrueFact(kind, f) ? 1 : 0;
  }

  int fact(int kind) {
    int[] f = taken(kind);
    if (f == null || hypotheses.size() == 30) return NONE;
    if (!isTrueFact(kind, f)) return FALSE;
    int[] h = new int[f.length + 1];
    h[0] = kind;
    System.arraycopy(f, 0, h, 1, f.length);
    hypotheses.add(h);
    on.add(true);
    return hypotheses.size() - 1;
  }

  boolean turn(int hypothesis, boolean value) {
    if (hypothesis < 0 || hypothesis >= on.size()) return false;
    on.set(hypothesis, value);
    return true;
  }

  int follows(int kind) {
    int[] f = taken(kind);
    if (f == null) return NONE;
    if (!isTrueFact(kind, f)) return FALSE;
    return world(onNumbers()).shows(kind, f) ? 1 : 0;
  }

  int needs(int kind) {
    int[] f = taken(kind);
    if (f == null) return NONE;
    if (!isTrueFact(kind, f)) return FALSE;
    left = new ArrayList<>();
    List<Integer> numbers = onNumbers();
    if (!world(numbers).shows(kind, f)) return 0;
    for (int number : onNumbersBackwards()) {
      List<Integer> fewer = new ArrayList<>(numbers);
      fewer.remove((Object) number);
      if (world(fewer).shows(kind, f)) numbers = fewer;
    }
    left = numbers;
    return left.size();
  }

  private List<Integer> onNumbersBackwards() {
    List<Integer> numbers = onNumbers();
    java.util.Collections.reverse(numbers);
    return numbers;
  }

  int need(int k) {
    return 0 <= k && k < left.size() ? left.get(k) : NONE;
  }

  int line(int a, int b) {
    return !isPoint(a) || !isPoint(b) || a == b ? 0 : world(onNumbers()).lineOf(a, b);
  }

  int circle(int a, int b, int c) {
    if (!isPoint(a) || !isPoint(b) || !isPoint(c) || collinear(a, b, c)) return 0;
    return world(onNumbers()).circleOf(a, b, c);
  }

  int length(int a, int b) {
    return !isPoint(a) || !isPoint(b) || a == b ? NONE : world(onNumbers()).lengthOf(a, b).first();
  }

  int told(int what) {
    if (what == 0) return points.size();
    if (what == 1) return hypotheses.size();
    if (what == 2) return onNumbers().size();
    if (what == 3) return draft.size();
    if (what < 0 || what > 7) return NONE;
    World world = world(onNumbers());
    if (what == 4) return world.lines.size();
    if (what == 6) return world.lengths.size();
    if (what == 7) return world.countRows();
    int count = 0;
    for (int circle : world.circles) if (Integer.bitCount(circle) >= 4) count++;
    return count;
  }
}
