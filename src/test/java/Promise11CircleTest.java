/** Promise 11: circle. */
public final class Promise11CircleTest {
  private static final String PROMISE = "Promise 11";

  private static Counted round() {
    return Counted.figure(5, 0, 3, 4, 0, 5, -4, 3, -5, 0, -3, -4, 0, -5);
  }

  private static void bits() {
    Check.sentence(PROMISE, "The CIRCLE of three POINTS, likewise");
    Counted x = round();
    Check.due("the first three", x.circle(0, 1, 2), 7);
    Check.due("the last three", x.circle(4, 5, 6), 112);
    for (int d = 3; d < 7; d++) {
      Check.due("fact", x.fact(Check.CIRCLE, 0, 1, 2, d), d - 3);
      Check.due("circle to " + d, x.circle(0, 1, d), (1 << d + 1) - 1);
    }
    int[][] orders = {{4, 5, 6}, {4, 6, 5}, {5, 4, 6}, {5, 6, 4}, {6, 4, 5}, {6, 5, 4}};
    for (int[] o : orders) Check.due("all seven, in each order", x.circle(o[0], o[1], o[2]), 127);
    x.turn(3, false);
    Check.due("the last OFF", x.circle(0, 1, 2), 63);
    for (int[] o : orders) Check.due("the last OFF, in each order", x.circle(o[0], o[1], o[2]), 112);
    for (int i = 0; i < 3; i++) x.turn(i, false);
    Check.due("all OFF", x.circle(0, 1, 2), 7);
  }

  private static void noSuchPoint() {
    Check.sentence(PROMISE, "0 when there is no such POINT");
    for (int size = 0; size <= 7; size++) {
      Counted x = new Counted();
      for (int i = 0; i < size; i++) x.point(i, i * i);
      Check.due("circle(-1, 0, 1) of " + size, x.circle(-1, 0, 1), 0);
      Check.due("circle(0, -1, 1) of " + size, x.circle(0, -1, 1), 0);
      Check.due("circle(0, 1, -1) of " + size, x.circle(0, 1, -1), 0);
      Check.due("circle(" + size + ", 0, 1) of " + size, x.circle(size, 0, 1), 0);
      Check.due("circle(0, " + size + ", 1) of " + size, x.circle(0, size, 1), 0);
      Check.due("circle(0, 1, " + size + ") of " + size, x.circle(0, 1, size), 0);
      if (size > 2) {
        int last = size - 1;
        Check.due("circle(" + last + ", 0, 1) of " + size, x.circle(last, 0, 1), 3 | 1 << last);
        Check.due("circle(0, " + last + ", 1) of " + size, x.circle(0, last, 1), 3 | 1 << last);
        Check.due("circle(0, 1, " + last + ") of " + size, x.circle(0, 1, last), 3 | 1 << last);
      }
      for (int odd : Check.ODD) {
        Check.due("circle(" + odd + ", 0, 1) of " + size, x.circle(odd, 0, 1), 0);
        Check.due("circle(0, " + odd + ", 1) of " + size, x.circle(0, odd, 1), 0);
        Check.due("circle(0, 1, " + odd + ") of " + size, x.circle(0, 1, odd), 0);
      }
    }
    Counted all = round();
    for (int d = 3; d < 7; d++) all.fact(Check.CIRCLE, 0, 1, 2, d);
    Check.due("circle(5, 6, 7) of seven on one CIRCLE", all.circle(5, 6, 7), 0);
    Check.due("circle(7, 8, 9) of seven on one CIRCLE", all.circle(7, 8, 9), 0);
    Check.due("circle(-1, 5, 6) of seven on one CIRCLE", all.circle(-1, 5, 6), 0);
  }

  private static void collinear() {
    Check.sentence(PROMISE, "or they are COLLINEAR in THE FIGURE");
    Counted x = Counted.figure(-1000, -1000, 1000, 999, 999, 998, 0, 0, 500, 500, 1, 1, 2, 0);
    Check.due("COLLINEAR", x.circle(0, 3, 4), 0);
    Check.due("COLLINEAR, in another order", x.circle(4, 0, 3), 0);
    Check.due("COLLINEAR, in another order", x.circle(3, 4, 5), 0);
    Check.due("COLLINEAR but for one unit of area", x.circle(0, 1, 2), 7);
    Check.due("not COLLINEAR", x.circle(3, 5, 6), 104);
    x.fact(Check.COLLINEAR, 0, 3, 4);
    Check.due("COLLINEAR, and told", x.circle(0, 3, 4), 0);
    Check.due("COLLINEAR, not told", x.circle(0, 3, 5), 0);
  }

  private static void notDifferent() {
    Check.sentence(PROMISE, "(or not different)");
    Counted x = round();
    for (int pass = 0; pass < 2; pass++) {
      Check.due("first and second", x.circle(0, 0, 1), 0);
      Check.due("first and third", x.circle(0, 1, 0), 0);
      Check.due("second and third", x.circle(1, 0, 0), 0);
      Check.due("all", x.circle(0, 0, 0), 0);
      Check.due("all, the last", x.circle(6, 6, 6), 0);
      Check.due("the last two", x.circle(5, 6, 6), 0);
      Check.due("not there, all", x.circle(7, 7, 7), 0);
      x.fact(Check.CIRCLE, 0, 1, 5, 6);
    }
    Check.due("different", x.circle(0, 1, 6), 99);
  }

  public static void main(String[] args) {
    bits();
    noSuchPoint();
    collinear();
    notDifferent();
    Check.end();
  }
}
