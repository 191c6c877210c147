/** The RULES are "for all POINTS a, b, c, .. that differ": each one with its POINTS told in every order. */
public final class OrdersTest {
  private final String sentence;
  private final int[] places;
  private final int[][] hypotheses;
  private final int[][] followers;

  /** Places as x0, y0, ..; FACTS as kind, POINTS; each of the followers needs all HYPOTHESES. */
  private OrdersTest(String sentence, int[] places, int[][] hypotheses, int[]... followers) {
    this.sentence = sentence;
    this.places = places;
    this.hypotheses = hypotheses;
    this.followers = followers;
  }

  private static int[] f(int... fact) {
    return fact;
  }

  private static final int[] CIRCLE_OF_FOUR = {5, 0, 3, 4, -4, 3, 0, -5};
  private static final int[] HALF_CIRCLE = {0, 0, 5, 0, -5, 0, 3, 4};
  private static final int[] KITE = {0, 0, 4, 0, 2, 1, 2, -3};

  private static final OrdersTest[] ALL = {
    new OrdersTest("1 two LINES with a POINT in common, and their DIRECTIONS differ by 0: they are one",
      f(0, 0, 1, 0, 3, 0, 2, 5), new int[][] {f(1, 0, 1, 0, 2)},
      f(0, 0, 1, 2), f(1, 0, 1, 1, 2), f(1, 0, 2, 1, 2)),
    new OrdersTest("2 a, b, c, d on one CIRCLE: d(ac) - d(bc) - d(ad) + d(bd) = 0",
      CIRCLE_OF_FOUR, new int[][] {f(3, 0, 1, 2, 3)},
      f(6, 0, 2, 1, 2, 0, 3, 1, 3), f(6, 0, 1, 2, 1, 0, 3, 2, 3), f(6, 0, 1, 3, 1, 0, 2, 3, 2)),
    new OrdersTest("3 that, and a, b, c proper, a, b, d proper: they are on one CIRCLE",
      CIRCLE_OF_FOUR, new int[][] {f(6, 0, 2, 1, 2, 0, 3, 1, 3)},
      f(3, 0, 1, 2, 3), f(6, 0, 1, 2, 1, 0, 3, 2, 3), f(6, 0, 1, 3, 1, 0, 2, 3, 2)),
    new OrdersTest("4 |ab| = |ac|, proper: d(ab) + d(ac) - 2 d(bc) = 0",
      f(0, 3, -2, 0, 2, 0), new int[][] {f(4, 0, 1, 0, 2)}, f(6, 0, 1, 1, 2, 1, 2, 0, 2)),
    new OrdersTest("5 that, proper: |ab| = |ac|",
      f(0, 3, -2, 0, 2, 0), new int[][] {f(6, 0, 1, 1, 2, 1, 2, 0, 2)}, f(4, 0, 1, 0, 2)),
    new OrdersTest("6 o on the LINE of a and b, |oa| = |ob|, |oa| = |oc|, a, b, c proper: d(ac) - d(bc) = 1",
      HALF_CIRCLE, new int[][] {f(5, 0, 1, 2), f(4, 0, 3, 0, 2)}, f(2, 1, 3, 2, 3)),
    new OrdersTest("6 o on the LINE of a and b, |oa| = |ob|, |oa| = |oc|, a, b, c proper: d(ac) - d(bc) = 1",
      HALF_CIRCLE, new int[][] {f(1, 0, 1, 1, 2), f(4, 0, 1, 0, 2), f(4, 0, 3, 0, 1)}, f(2, 1, 3, 2, 3)),
    new OrdersTest("7 o on the LINE of a and b, |oa| = |ob|, a, b, c proper, d(ac) - d(bc) = 1: |oa| = |oc|",
      HALF_CIRCLE, new int[][] {f(0, 0, 1, 2), f(4, 0, 1, 0, 2), f(2, 1, 3, 2, 3)}, f(4, 0, 1, 0, 3), f(4, 0, 2, 0, 3)),
    new OrdersTest("8 |oa| = |ob|, |oa| = |oc|, |oa| = |od|, a, b, c proper: a, b, c, d are on one CIRCLE",
      f(0, 0, 5, 0, 3, 4, -4, 3, 0, -5), new int[][] {f(4, 0, 1, 0, 2), f(4, 0, 2, 0, 3), f(4, 0, 4, 0, 1)}, f(3, 1, 2, 3, 4)),
    new OrdersTest("9 |pa| = |pb|, |qa| = |qb|: d(pq) - d(ab) = 1",
      KITE, new int[][] {f(4, 2, 0, 2, 1), f(4, 3, 0, 3, 1)}, f(2, 2, 3, 0, 1)),
    new OrdersTest("10 |pa| = |pb|, d(pq) - d(ab) = 1: |qa| = |qb|",
      KITE, new int[][] {f(4, 2, 0, 2, 1), f(2, 2, 3, 0, 1)}, f(4, 3, 0, 3, 1)),
    new OrdersTest("10 |pa| = |pb|, d(pq) - d(ab) = 1: |qa| = |qb|",
      f(0, 0, 4, 0, 2, 0, 2, 3), new int[][] {f(5, 2, 0, 1), f(2, 2, 3, 0, 1)}, f(4, 3, 0, 3, 1)),
    new OrdersTest("11 m on the LINE of a and b, |ma| = |mb|, n on that of a and c, |na| = |nc|, a, b, c proper: d(mn) - d(bc) = 0",
      f(0, 0, 6, 0, 2, 8, 3, 0, 1, 4), new int[][] {f(5, 3, 0, 1), f(5, 4, 2, 0)}, f(1, 3, 4, 1, 2)),
    new OrdersTest("12 d(ab) - d(cd) = 0, d(ac) - d(bd) = 0, a, b, c proper: |ab| = |cd|, |ac| = |bd|",
      f(0, 0, 3, 0, 1, 2, 4, 2), new int[][] {f(1, 0, 1, 2, 3), f(1, 0, 2, 1, 3)}, f(4, 0, 1, 2, 3), f(4, 0, 2, 1, 3)),
    new OrdersTest("LINES with two POINTS in common are one always",
      f(0, 0, 1, 0, 3, 0, 4, 0, 9, 0), new int[][] {f(0, 0, 1, 2), f(0, 2, 3, 4), f(0, 1, 2, 3)}, f(0, 0, 1, 4), f(0, 0, 3, 4)),
    new OrdersTest("(CIRCLES with three such POINTS in common are one always)",
      f(5, 0, 3, 4, 0, 5, -4, 3, -5, 0), new int[][] {f(3, 0, 1, 2, 3), f(3, 1, 2, 3, 4)}, f(3, 0, 1, 2, 4), f(3, 0, 2, 3, 4)),
    new OrdersTest("of two that are EQUAL they are one",
      f(0, 0, 1, 0, 1, 1, 0, 1), new int[][] {f(4, 0, 1, 1, 2), f(4, 2, 3, 1, 2), f(4, 2, 3, 3, 0)}, f(4, 0, 1, 0, 3))};

  /** What is told as POINT p is the one that is placed as number order[p]. */
  private void inOrder(int[] order) {
    int size = order.length;
    Counted x = new Counted();
    for (int number = 0; number < size; number++) {
      for (int p = 0; p < size; p++) {
        if (order[p] == number) Check.due("point", x.point(places[2 * p], places[2 * p + 1]), number);
      }
    }
    String what = "with the numbers " + java.util.Arrays.toString(order);
    for (int[] h : hypotheses) {
      for (int[] g : followers) Check.due(what + " too early", ask(x, 'f', g, order), 0);
      ask(x, 'h', h, order);
    }
    Check.due(what + " HYPOTHESES", x.told(1), hypotheses.length);
    for (int[] g : followers) Check.due(what + " needs", ask(x, 'n', g, order), hypotheses.length);
    for (int h = 0; h < hypotheses.length; h++) {
      x.turn(h, false);
      for (int[] g : followers) Check.due(what + " without " + h, ask(x, 'f', g, order), 0);
      x.turn(h, true);
    }
    for (int[] g : followers) Check.due(what + " follows", ask(x, 'f', g, order), 1);
  }

  private static int ask(Counted x, char how, int[] fact, int[] order) {
    for (int i = 1; i < fact.length; i++) x.of(order[fact[i]]);
    return how == 'h' ? x.fact(fact[0]) : how == 'n' ? x.needs(fact[0]) : x.follows(fact[0]);
  }

  private void inAllOrders(int[] order, int placed) {
    if (placed == order.length) {
      inOrder(order);
      return;
    }
    for (int number = 0; number < order.length; number++) {
      boolean isFree = true;
      for (int p = 0; p < placed; p++) isFree &= order[p] != number;
      if (isFree) {
        order[placed] = number;
        inAllOrders(order, placed + 1);
      }
    }
  }

  public static void main(String[] args) {
    for (OrdersTest test : ALL) {
      Check.sentence("Terms", test.sentence);
      test.inAllOrders(new int[test.places.length / 2], 0);
    }
    Check.end();
  }
}
