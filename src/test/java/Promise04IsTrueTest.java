/** Promise 4: isTrue. */
public final class Promise04IsTrueTest {
  private static final String PROMISE = "Promise 4";

  /** A square 0 1 2 3, its middle 4, 5 beside it, 6 on the line of 0 and 1. */
  private static Counted square() {
    return Counted.figure(0, 0, 4, 0, 4, 4, 0, 4, 2, 2, 3, 9, 8, 0);
  }

  private static final int[][] TRUE_ONES = {
    {0, 4, 2}, {0, 1, 2, 3}, {0, 1, 1, 2}, {0, 1, 2, 3}, {0, 1, 1, 2}, {4, 0, 2}, {0, 1, 0, 2, 0, 2, 0, 3}};
  private static final int[][] OTHERS = {
    {0, 4, 5}, {0, 1, 2, 5}, {0, 1, 1, 5}, {0, 1, 2, 5}, {0, 1, 1, 5}, {4, 0, 5}, {0, 1, 0, 2, 0, 2, 0, 5}};

  private static void truth() {
    Check.sentence(PROMISE, "THE DRAFT as a FACT of a kind: 1 when it is TRUE, 0 when it is not");
    Counted x = square();
    for (int kind = 0; kind < 7; kind++) {
      Check.due("TRUE, kind " + kind, x.isTrue(kind, TRUE_ONES[kind]), 1);
      Check.due("not TRUE, kind " + kind, x.isTrue(kind, OTHERS[kind]), 0);
    }
    Check.due("three on a line are on no circle", x.isTrue(Check.CIRCLE, 0, 1, 6, 4), 0);
    Check.due("told(1)", x.told(1), 0);
  }

  private static void noSuchKind() {
    Check.sentence(PROMISE, "NONE when there is no such kind");
    Counted x = square();
    int[] kinds = {-1, -2, 7, 8, 9};
    for (int kind : kinds) {
      Check.due("kind " + kind + " of none", x.isTrue(kind), Check.NONE);
      Check.due("kind " + kind + " of three", x.isTrue(kind, TRUE_ONES[0]), Check.NONE);
      Check.due("kind " + kind + " of four", x.isTrue(kind, TRUE_ONES[3]), Check.NONE);
      Check.due("kind " + kind + " of eight", x.isTrue(kind, TRUE_ONES[6]), Check.NONE);
    }
    Check.due("the first kind", x.isTrue(0, TRUE_ONES[0]), 1);
    Check.due("the last kind", x.isTrue(6, TRUE_ONES[6]), 1);
    for (int odd : Check.ODD) Check.due("kind " + odd, x.isTrue(odd, TRUE_ONES[0]), Check.NONE);
    Check.due("told(3)", x.told(3), 0);
  }

  private static void notAsMany() {
    Check.sentence(PROMISE, "it has not as many POINTS");
    int[] points = {0, 1, 2, 3, 4, 5, 6, 0};
    for (int kind = 0; kind < 7; kind++) {
      for (int count = 0; count <= 8; count++) {
        int[] some = java.util.Arrays.copyOf(points, count);
        boolean refused = count != Check.SIZES[kind];
        Check.due("kind " + kind + " of " + count, square().isTrue(kind, some) == Check.NONE, refused);
      }
    }
  }

  private static void theSame() {
    Check.sentence(PROMISE, "or two that must be different are the same");
    Counted x = square();
    int[] all = {Check.COLLINEAR, Check.MIDDLE};
    for (int kind : all) {
      Check.due("first and second, kind " + kind, x.isTrue(kind, 0, 0, 1), Check.NONE);
      Check.due("first and third, kind " + kind, x.isTrue(kind, 0, 1, 0), Check.NONE);
      Check.due("second and third, kind " + kind, x.isTrue(kind, 1, 0, 0), Check.NONE);
    }
    Check.due("CIRCLE, 1 and 2", x.isTrue(Check.CIRCLE, 0, 0, 1, 2), Check.NONE);
    Check.due("CIRCLE, 1 and 3", x.isTrue(Check.CIRCLE, 0, 1, 0, 2), Check.NONE);
    Check.due("CIRCLE, 1 and 4", x.isTrue(Check.CIRCLE, 0, 1, 2, 0), Check.NONE);
    Check.due("CIRCLE, 2 and 3", x.isTrue(Check.CIRCLE, 1, 0, 0, 2), Check.NONE);
    Check.due("CIRCLE, 2 and 4", x.isTrue(Check.CIRCLE, 1, 0, 2, 0), Check.NONE);
    Check.due("CIRCLE, 3 and 4", x.isTrue(Check.CIRCLE, 1, 2, 0, 0), Check.NONE);
    int[] lines = {Check.PARALLEL, Check.PERPENDICULAR, Check.EQUAL};
    for (int kind : lines) {
      Check.due("the first line, kind " + kind, x.isTrue(kind, 0, 0, 1, 2), Check.NONE);
      Check.due("the second line, kind " + kind, x.isTrue(kind, 1, 2, 0, 0), Check.NONE);
      Check.due("both lines, kind " + kind, x.isTrue(kind, 0, 0, 0, 0), Check.NONE);
    }
    Check.due("PARALLEL, the lines may be the same", x.isTrue(Check.PARALLEL, 0, 1, 1, 0), 1);
    Check.due("PERPENDICULAR, the lines may be the same", x.isTrue(Check.PERPENDICULAR, 0, 1, 0, 1), 0);
    Check.due("EQUAL, the distances may be the same", x.isTrue(Check.EQUAL, 0, 1, 1, 0), 1);
    for (int line = 0; line < 4; line++) {
      int[] turn = {0, 1, 0, 1, 0, 1, 0, 1};
      turn[2 * line] = 1;
      Check.due("ANGLE, line " + line, x.isTrue(Check.ANGLE, turn), Check.NONE);
    }
    Check.due("ANGLE, the lines may be the same", x.isTrue(Check.ANGLE, 0, 1, 0, 1, 1, 0, 1, 0), 1);
  }

  public static void main(String[] args) {
    truth();
    noSuchKind();
    notAsMany();
    theSame();
    Check.end();
  }
}
