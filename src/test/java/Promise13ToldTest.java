/** Promise 13: told. */
public final class Promise13ToldTest {
  private static final String PROMISE = "Promise 13";

  private static void points() {
    Check.sentence(PROMISE, "POINTS (what = 0)");
    Counted x = new Counted();
    for (int i = 0; i <= 7; i++) {
      Check.due("told(0) of " + i, x.told(0), i);
      x.point(i, i * i);
    }
    Check.due("told(0) behind an eighth", x.told(0), 7);
  }

  private static void hypotheses() {
    Check.sentence(PROMISE, "HYPOTHESES (1), of them ON (2)");
    Counted x = Counted.figure(0, 0, 1, 0, 2, 0);
    for (int i = 0; i <= 30; i++) {
      Check.due("told(1) of " + i, x.told(1), i);
      Check.due("told(2) of " + i, x.told(2), i);
      x.fact(Check.COLLINEAR, 0, 1, 2);
    }
    Check.due("told(1) behind a 31st", x.told(1), 30);
    for (int i = 0; i < 30; i++) {
      x.turn(i, false);
      Check.due("told(2) with " + (i + 1) + " OFF", x.told(2), 29 - i);
    }
    Check.due("told(1) with all OFF", x.told(1), 30);
    Check.due("told(4) with all OFF", x.told(4), 3);
    x.turn(29, true);
    Check.due("told(2) with the last ON", x.told(2), 1);
    Check.due("told(4) with the last ON", x.told(4), 1);
  }

  private static void draft() {
    Check.sentence(PROMISE, "POINTS in THE DRAFT (3)");
    Counted x = Counted.figure(0, 0, 1, 0, 2, 0);
    for (int i = 0; i <= 8; i++) {
      Check.due("told(3) of " + i, x.told(3), i);
      x.of(i % 3);
    }
    Check.due("told(3) behind a ninth", x.told(3), 8);
    x.isTrue(0);
    Check.due("told(3) when it is taken", x.told(3), 0);
  }

  private static void linesAndLengths() {
    Check.sentence(PROMISE, "by what FOLLOWS from those that are ON: LINES (4)");
    Counted x = new Counted();
    for (int size = 0; size <= 7; size++) {
      Check.due("told(4) of " + size, x.told(4), size * (size - 1) / 2);
      if (size < 7) x.point(size, 0);
    }
    int[] left = {19, 16, 12, 7, 1};
    for (int c = 2; c < 7; c++) {
      x.fact(Check.COLLINEAR, 0, 1, c);
      Check.due("told(4) with " + (c + 1) + " on one LINE", x.told(4), left[c - 2]);
    }
    x.turn(4, false);
    Check.due("told(4) with one OFF", x.told(4), 7);

    Check.sentence(PROMISE, "LENGTHS (6)");
    Counted y = new Counted();
    for (int size = 0; size <= 7; size++) {
      Check.due("told(6) of " + size, y.told(6), size * (size - 1) / 2);
      if (size < 7) y.point(size, 0);
    }
    for (int i = 0; i < 5; i++) {
      y.fact(Check.EQUAL, i, i + 1, i + 1, i + 2);
      Check.due("told(6) of " + (i + 2) + " in one", y.told(6), 20 - i);
    }
    y.fact(Check.EQUAL, 0, 1, 5, 6);
    Check.due("told(6) when they are one already", y.told(6), 16);
    y.turn(0, false);
    Check.due("told(6) with one OFF that FOLLOWS from the others", y.told(6), 16);
    y.turn(5, false);
    Check.due("told(6) with two OFF", y.told(6), 17);
  }

  private static void circles() {
    Check.sentence(PROMISE, "CIRCLES with four POINTS or more (5)");
    Counted x = Counted.figure(5, 0, 3, 4, 0, 5, -4, 3, -5, 0, -3, -4, 0, -5);
    Check.due("three POINTS are not enough", x.told(5), 0);
    x.fact(Check.CIRCLE, 0, 1, 2, 3);
    Check.due("four are", x.told(5), 1);
    x.fact(Check.CIRCLE, 3, 4, 5, 6);
    Check.due("two with four", x.told(5), 2);
    x.fact(Check.CIRCLE, 0, 1, 2, 4);
    Check.due("one with five, one with four", x.told(5), 2);
    x.fact(Check.CIRCLE, 0, 1, 2, 5);
    Check.due("one with all seven", x.told(5), 1);
    x.turn(0, false);
    x.turn(2, false);
    x.turn(3, false);
    Check.due("the second alone", x.told(5), 1);
    x.turn(1, false);
    Check.due("none", x.told(5), 0);
    Counted none = Counted.figure(0, 0, 1, 0, 2, 0, 3, 0);
    none.fact(Check.COLLINEAR, 0, 1, 2);
    none.fact(Check.COLLINEAR, 0, 1, 3);
    Check.due("a LINE is none", none.told(5), 0);
  }

  private static void rows() {
    Check.sentence(PROMISE, "ROWS of which none follows from the others, of the LINES that are left (7; all 0 is 2 does not count)");
    Counted x = Counted.figure(0, 0, 4, 0, 4, 3, 0, 3, 2, 0, 6, 0);
    Check.due("none", x.told(7), 0);
    x.fact(Check.PARALLEL, 0, 1, 1, 0);
    Check.due("all 0 is 0", x.told(7), 0);
    x.fact(Check.ANGLE, 0, 1, 1, 2, 1, 2, 0, 1);
    Check.due("one", x.told(7), 1);
    x.fact(Check.PERPENDICULAR, 0, 1, 1, 2);
    Check.due("one, of which the other follows", x.told(7), 1);
    x.fact(Check.PERPENDICULAR, 1, 2, 2, 3);
    Check.due("two", x.told(7), 2);
    x.fact(Check.PARALLEL, 0, 1, 2, 3);
    Check.due("two, of which the third follows", x.told(7), 2);
    x.fact(Check.COLLINEAR, 0, 1, 4);
    Check.due("LINES that are gone bring no ROW", x.told(7), 2);
    x.fact(Check.PARALLEL, 3, 2, 4, 5);
    Check.due("a ROW that makes LINES one is gone with them", x.told(7), 2);
    Check.due("they are one", x.line(0, 5), 51);
    x.turn(3, false);
    x.turn(4, false);
    Check.due("with two OFF", x.told(7), 2);
    x.turn(6, false);
    Check.due("with three OFF", x.told(7), 1);
    for (int i = 0; i < 7; i++) x.turn(i, false);
    Check.due("with all OFF", x.told(7), 0);
  }

  private static void mostRows() {
    Check.sentence(PROMISE, "ROWS of which none follows from the others, of the LINES that are left (7; all 0 is 2 does not count)");
    Counted x = Counted.figure(0, 0, 1, 0, 2, 0, 3, 0, 4, 0, 5, 0, 6, 0);
    int[][] pairs = new int[21][];
    int count = 0;
    for (int a = 0; a < 7; a++) {
      for (int b = a + 1; b < 7; b++) pairs[count++] = new int[] {a, b};
    }
    for (int i = 0; i < 20; i++) {
      x.draft(pairs[i]);
      x.draft(pairs[i + 1]);
      x.draft(pairs[i + 1]);
      x.draft(pairs[i]);
      Check.due("fact", x.fact(Check.ANGLE), i);
      Check.due("twice the turn from a pair to the next", x.told(7), i + 1);
    }
    Check.due("no LINES become one by it", x.told(4), 21);
    Check.due("another twice", x.fact(Check.ANGLE, 0, 1, 5, 6, 5, 6, 0, 1), 20);
    Check.due("it follows", x.told(7), 20);
    Check.due("one that says that they are one", x.fact(Check.COLLINEAR, 0, 1, 2), 21);
    Check.due("LINES that are left", x.told(4), 19);
    Check.due("ROWS of the LINES that are left", x.told(7), 18);
  }

  private static void another() {
    Check.sentence(PROMISE, "NONE: another what");
    Counted x = Counted.figure(0, 0, 4, 0, 2, 0);
    x.fact(Check.MIDDLE, 2, 0, 1);
    x.of(0);
    Check.due("told(-1)", x.told(-1), Check.NONE);
    Check.due("told(0)", x.told(0), 3);
    Check.due("told(7)", x.told(7), 0);
    Check.due("told(8)", x.told(8), Check.NONE);
    Check.due("told(9)", x.told(9), Check.NONE);
    Check.due("told(12)", x.told(12), Check.NONE);
    for (int odd : Check.ODD) Check.due("told(" + odd + ")", x.told(odd), Check.NONE);
    Counted none = new Counted();
    for (int odd : Check.ODD) Check.due("told(" + odd + ")", none.told(odd), Check.NONE);
    Check.due("told(8)", none.told(8), Check.NONE);
    Check.due("told(-1)", none.told(-1), Check.NONE);
  }

  public static void main(String[] args) {
    points();
    hypotheses();
    draft();
    linesAndLengths();
    circles();
    rows();
    mostRows();
    another();
    Check.end();
  }
}
