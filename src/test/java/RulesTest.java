/** Promises 7 to 13: each RULE alone, what it must not do, ROWS, and the HYPOTHESES that are needed. */
public final class RulesTest {
  private static final int COLLINEAR = Check.COLLINEAR;
  private static final int PARALLEL = Check.PARALLEL;
  private static final int PERPENDICULAR = Check.PERPENDICULAR;
  private static final int CIRCLE = Check.CIRCLE;
  private static final int EQUAL = Check.EQUAL;
  private static final int MIDDLE = Check.MIDDLE;
  private static final int ANGLE = Check.ANGLE;

  /** The FACT FOLLOWS from all HYPOTHESES, needs each, and without any one of them it is gone. */
  private static void needsAll(String rule, Counted x, int kind, int... points) {
    int all = x.told(1);
    Check.due(rule + " follows", x.follows(kind, points), 1);
    Check.due(rule + " needs", x.needs(kind, points), all);
    for (int h = 0; h < all; h++) {
      Check.due(rule + " need", x.need(h), h);
      x.turn(h, false);
      Check.due(rule + " without " + h, x.follows(kind, points), 0);
      Check.due(rule + " needs without " + h, x.needs(kind, points), 0);
      Check.due(rule + " need then", x.need(0), -1);
      x.turn(h, true);
      x.needs(kind, points);
    }
    Check.due(rule + " follows again", x.follows(kind, points), 1);
  }

  private static void lines() {
    Check.sentence("Terms", "1 two LINES with a POINT in common, and their DIRECTIONS differ by 0: they are one");
    Counted x = Counted.figure(0, 0, 1, 0, 3, 0, 0, 5);
    x.fact(PARALLEL, 0, 1, 1, 2);
    needsAll("1", x, COLLINEAR, 0, 1, 2);
    Check.due("1 line", x.line(0, 2), 7);
    Check.due("1 lines", x.told(4), 4);
    Check.due("1 rows of the lines that are left", x.told(7), 0);
    Counted y = Counted.figure(0, 0, 1, 0, 3, 0, 0, 5);
    y.fact(PERPENDICULAR, 0, 1, 0, 3);
    y.fact(PERPENDICULAR, 3, 0, 2, 1);
    needsAll("1 across", y, COLLINEAR, 2, 0, 1);
    Check.due("1 across rows", y.told(7), 1);
    Check.due("1 across, another line", y.follows(PERPENDICULAR, 0, 2, 0, 3), 1);
    Counted far = Counted.figure(0, 0, 1, 0, 3, 0, 4, 0);
    far.fact(PARALLEL, 0, 1, 2, 3);
    Check.due("no point in common", far.follows(COLLINEAR, 0, 1, 2), 0);
    Check.due("no point in common, rows", far.told(7), 1);
    Counted joined = Counted.figure(0, 0, 1, 0, 3, 0, 4, 0, 9, 0);
    joined.fact(COLLINEAR, 0, 1, 2);
    joined.fact(COLLINEAR, 2, 3, 4);
    Check.due("two lines, one point", joined.line(0, 4), 17);
    Check.due("two lines", joined.told(4), 6);
    joined.fact(COLLINEAR, 0, 1, 3);
    Check.due("two points in common", joined.line(0, 4), 31);
    Check.due("one line", joined.told(4), 1);
    Check.due("no circles there", joined.told(5), 0);
    Check.due("lengths stay", joined.told(6), 10);
  }

  private static void circles() {
    Check.sentence("Terms", "2 a, b, c, d on one CIRCLE: d(ac) - d(bc) - d(ad) + d(bd) = 0.   3 that, and a, b, c proper, a, b, d proper: they are on one CIRCLE");
    int[] places = {5, 0, 3, 4, -4, 3, 0, -5, -5, 0};
    Counted x = Counted.figure(places);
    x.fact(CIRCLE, 0, 1, 2, 3);
    needsAll("2", x, ANGLE, 0, 2, 1, 2, 0, 3, 1, 3);
    Check.due("2 in another order", x.follows(ANGLE, 3, 0, 2, 0, 3, 1, 2, 1), 1);
    Check.due("2 rows", x.told(7), 2);
    Check.due("2 circles", x.told(5), 1);
    Check.due("2 circle", x.circle(3, 1, 0), 15);
    Check.due("2 no fifth", x.circle(3, 1, 4), 26);
    x.fact(CIRCLE, 4, 0, 1, 2);
    Check.due("three in common", x.circle(3, 1, 4), 31);
    Check.due("one circle", x.told(5), 1);
    Check.due("all four", x.follows(CIRCLE, 4, 3, 2, 1), 1);
    Counted two = Counted.figure(places);
    two.fact(ANGLE, 0, 2, 1, 2, 0, 3, 1, 3);
    needsAll("3", two, CIRCLE, 3, 2, 1, 0);
    Check.due("3 and 2", two.follows(ANGLE, 0, 1, 2, 1, 0, 3, 2, 3), 1);
    Counted row = Counted.figure(0, 0, 1, 0, 3, 0, 4, 0, 0, 1);
    row.fact(COLLINEAR, 0, 1, 2);
    row.fact(COLLINEAR, 0, 1, 3);
    Check.due("a line is no circle", row.follows(CIRCLE, 0, 1, 2, 3), -2);
    Check.due("a line is no circle", row.needs(CIRCLE, 0, 1, 2, 3), -2);
    Check.due("no circles", row.told(5), 0);
    Check.due("three alone", row.circle(0, 1, 4), 19);
  }

  private static void isosceles() {
    Check.sentence("Terms", "4 |ab| = |ac|, proper: d(ab) + d(ac) - 2 d(bc) = 0.   5 that, proper: |ab| = |ac|");
    Counted x = Counted.figure(0, 3, -2, 0, 2, 0);
    x.fact(EQUAL, 0, 1, 0, 2);
    needsAll("4", x, ANGLE, 0, 1, 1, 2, 1, 2, 0, 2);
    Counted back = Counted.figure(0, 3, -2, 0, 2, 0);
    back.fact(ANGLE, 1, 2, 0, 1, 2, 0, 1, 2);
    needsAll("5", back, EQUAL, 2, 0, 1, 0);
    Counted flat = Counted.figure(0, 0, -2, 0, 2, 0);
    flat.fact(EQUAL, 0, 1, 0, 2);
    Check.due("4 not proper", flat.follows(ANGLE, 0, 1, 1, 2, 1, 2, 0, 2), 0);
    Check.due("4 not proper, rows", flat.told(7), 0);
    Counted turned = Counted.figure(0, 0, -2, 0, 2, 0);
    turned.fact(ANGLE, 0, 1, 1, 2, 1, 2, 0, 2);
    Check.due("5 not proper", turned.follows(EQUAL, 0, 1, 0, 2), 0);
    Check.due("5 not proper, lines", turned.told(4), 3);
  }

  private static void diameters() {
    Check.sentence("Terms", "6 o on the LINE of a and b, |oa| = |ob|, |oa| = |oc|, a, b, c proper: d(ac) - d(bc) = 1.   7 o on the LINE of a and b, |oa| = |ob|, a, b, c proper, d(ac) - d(bc) = 1: |oa| = |oc|");
    Counted x = Counted.figure(0, 0, 5, 0, -5, 0, 3, 4);
    x.fact(MIDDLE, 0, 1, 2);
    x.fact(EQUAL, 0, 3, 0, 2);
    needsAll("6", x, PERPENDICULAR, 1, 3, 2, 3);
    Counted back = Counted.figure(0, 0, 5, 0, -5, 0, 3, 4);
    back.fact(PERPENDICULAR, 3, 2, 3, 1);
    back.fact(MIDDLE, 0, 2, 1);
    needsAll("7", back, EQUAL, 0, 3, 0, 1);
    Counted parts = Counted.figure(0, 0, 5, 0, -5, 0, 3, 4);
    parts.fact(PERPENDICULAR, 3, 2, 3, 1);
    parts.fact(EQUAL, 0, 1, 0, 2);
    parts.fact(COLLINEAR, 0, 1, 2);
    needsAll("7 in parts", parts, EQUAL, 0, 3, 0, 1);
    Check.due("a middle follows", parts.follows(MIDDLE, 0, 1, 2), 1);
  }

  private static void centres() {
    Check.sentence("Terms", "8 |oa| = |ob|, |oa| = |oc|, |oa| = |od|, a, b, c proper: a, b, c, d are on one CIRCLE");
    Counted x = Counted.figure(0, 0, 5, 0, 3, 4, -4, 3, 0, -5);
    x.fact(EQUAL, 0, 1, 0, 2);
    x.fact(EQUAL, 0, 2, 0, 3);
    x.fact(EQUAL, 0, 4, 0, 1);
    needsAll("8", x, CIRCLE, 1, 2, 3, 4);
    Check.due("8 lengths", x.told(6), 7);
    Counted side = Counted.figure(0, 0, 5, 0, 3, 4, -4, 3, 0, -5);
    side.fact(CIRCLE, 1, 2, 3, 4);
    Check.due("no centre follows", side.follows(EQUAL, 0, 1, 0, 2), 0);
  }

  private static void bisectors() {
    Check.sentence("Terms", "9 |pa| = |pb|, |qa| = |qb|: d(pq) - d(ab) = 1.   10 |pa| = |pb|, d(pq) - d(ab) = 1: |qa| = |qb|");
    Counted x = Counted.figure(0, 0, 4, 0, 2, 1, 2, -3);
    x.fact(EQUAL, 2, 0, 2, 1);
    x.fact(EQUAL, 3, 0, 3, 1);
    needsAll("9", x, PERPENDICULAR, 2, 3, 0, 1);
    Counted back = Counted.figure(0, 0, 4, 0, 2, 1, 2, -3);
    back.fact(EQUAL, 2, 0, 2, 1);
    back.fact(PERPENDICULAR, 2, 3, 0, 1);
    needsAll("10", back, EQUAL, 3, 0, 3, 1);
    Counted other = Counted.figure(0, 0, 4, 0, 2, 1, 2, -3);
    other.fact(EQUAL, 3, 0, 3, 1);
    other.fact(PERPENDICULAR, 2, 3, 0, 1);
    needsAll("10 from the other", other, EQUAL, 2, 0, 2, 1);
    Counted middle = Counted.figure(0, 0, 4, 0, 2, 0, 2, 3);
    middle.fact(MIDDLE, 2, 0, 1);
    middle.fact(PERPENDICULAR, 2, 3, 0, 2);
    needsAll("10 from the middle", middle, EQUAL, 3, 0, 3, 1);
  }

  private static void midlines() {
    Check.sentence("Terms", "11 m on the LINE of a and b, |ma| = |mb|, n on that of a and c, |na| = |nc|, a, b, c proper: d(mn) - d(bc) = 0");
    Counted x = Counted.figure(0, 0, 6, 0, 2, 8, 3, 0, 1, 4);
    x.fact(MIDDLE, 3, 0, 1);
    x.fact(MIDDLE, 4, 2, 0);
    needsAll("11", x, PARALLEL, 3, 4, 1, 2);
    Check.due("11 no lengths", x.told(6), 8);
    Counted flat = Counted.figure(0, 0, 6, 0, 4, 0, 3, 0, 2, 0);
    flat.fact(EQUAL, 3, 0, 3, 1);
    flat.fact(EQUAL, 4, 2, 4, 0);
    Check.due("11 not on the lines", flat.follows(PARALLEL, 3, 4, 1, 2), 0);
  }

  private static void parallelograms() {
    Check.sentence("Terms", "12 d(ab) - d(cd) = 0, d(ac) - d(bd) = 0, a, b, c proper: |ab| = |cd|, |ac| = |bd|");
    Counted x = Counted.figure(0, 0, 3, 0, 1, 2, 4, 2);
    x.fact(PARALLEL, 0, 1, 2, 3);
    x.fact(PARALLEL, 0, 2, 1, 3);
    needsAll("12", x, EQUAL, 0, 1, 2, 3);
    needsAll("12", x, EQUAL, 0, 2, 1, 3);
    Check.due("12 lengths", x.told(6), 4);
    Counted flat = Counted.figure(0, 0, 1, 0, 3, 0, 4, 0);
    flat.fact(COLLINEAR, 0, 1, 2);
    flat.fact(COLLINEAR, 0, 1, 3);
    Check.due("12 not proper", flat.follows(EQUAL, 0, 1, 2, 3), 0);
    Check.due("12 not proper, lengths", flat.told(6), 6);
  }

  private static void rows() {
    Check.sentence("Terms", "What follows of ROWS are all sums of whole multiples of those that came");
    Counted x = Counted.figure(0, 0, 3, 0, 0, 2, 5, 1, 6, 1);
    x.fact(ANGLE, 0, 1, 0, 2, 0, 2, 0, 1);
    Check.due("twice a row", x.follows(PERPENDICULAR, 0, 1, 0, 2), 0);
    Check.due("twice a row", x.told(7), 1);
    Check.due("turned round", x.follows(ANGLE, 0, 2, 0, 1, 0, 1, 0, 2), 1);
    x.fact(PERPENDICULAR, 0, 1, 0, 2);
    Check.due("the row", x.told(7), 1);
    Check.due("the row needs", x.needs(ANGLE, 0, 1, 0, 2, 0, 2, 0, 1), 1);
    Check.due("the first is enough", x.need(0), 0);
    x.fact(PERPENDICULAR, 0, 2, 3, 4);
    Check.due("two right angles", x.needs(PARALLEL, 0, 1, 3, 4), 2);
    Check.due("two right angles", x.need(0) * 10 + x.need(1), 12);
    Check.due("two right angles, rows", x.told(7), 2);
    Counted none = Counted.figure(0, 0, 3, 0, 0, 2);
    Check.due("a line to itself", none.follows(PARALLEL, 0, 1, 1, 0), 1);
    Check.due("from none", none.needs(PARALLEL, 0, 1, 1, 0), 0);
    Check.due("a turn to itself", none.follows(ANGLE, 0, 1, 0, 2, 0, 1, 0, 2), 1);
    Check.due("a length to itself", none.follows(EQUAL, 0, 1, 1, 0), 1);
    Check.due("not TRUE", none.follows(PERPENDICULAR, 0, 1, 0, 1), -2);
    none.fact(PARALLEL, 0, 1, 1, 0);
    Check.due("nothing came", none.told(7), 0);
    Check.due("still from none", none.needs(PARALLEL, 0, 1, 1, 0), 0);
    // 2 x = 0 and 2 y = 0, for x = d(01) - d(46) and y = d(23) - d(46), are not x - y = 0.
    Counted halves = Counted.figure(0, 0, 1, 0, 0, 1, 2, 1, 5, 0, 9, 7, 5, 4);
    halves.fact(ANGLE, 0, 1, 4, 6, 4, 6, 0, 1);
    halves.fact(ANGLE, 2, 3, 4, 6, 4, 6, 2, 3);
    Check.due("two halves", halves.follows(PARALLEL, 0, 1, 2, 3), 0);
    Check.due("two wholes", halves.needs(ANGLE, 0, 1, 2, 3, 2, 3, 0, 1), 2);
    Check.due("two rows", halves.told(7), 2);
    // On a line all directions are the same: 2 x = 0 and 3 x = 0 make x = 0, for x = d(01) - d(23).
    Counted divided = Counted.figure(0, 0, 1, 0, 2, 0, 3, 0, 4, 0, 5, 0, 6, 0);
    divided.fact(ANGLE, 0, 1, 2, 3, 2, 3, 0, 1);
    Check.due("2 x", divided.follows(PARALLEL, 0, 1, 2, 3), 0);
    divided.fact(ANGLE, 0, 1, 2, 3, 4, 5, 2, 3);
    divided.fact(ANGLE, 4, 5, 2, 3, 2, 3, 0, 1);
    Check.due("rows", divided.told(7), 2);
    divided.fact(ANGLE, 2, 3, 4, 6, 4, 5, 2, 3);
    divided.fact(ANGLE, 2, 3, 4, 6, 4, 6, 0, 1);
    Check.due("3 x and 2 x", divided.follows(PARALLEL, 0, 1, 2, 3), 1);
  }

  private static void needed() {
    Check.sentence("Promise 8", "from the last one of them to the first, each that can be left out");
    Counted x = Counted.figure(0, 0, 1, 0, 3, 0, 0, 5, 1, 5);
    x.fact(PARALLEL, 0, 1, 3, 4);
    x.fact(COLLINEAR, 0, 1, 2);
    x.fact(PARALLEL, 0, 2, 3, 4);
    Check.due("the last can be left out", x.needs(PARALLEL, 1, 2, 3, 4), 2);
    Check.due("first", x.need(0), 0);
    Check.due("second", x.need(1), 1);
    Check.due("no third", x.need(2), -1);
    Check.due("none before the first", x.need(-1), -1);
    Check.due("refused", x.needs(PARALLEL, 1, 2, 3), -1);
    Check.due("stays", x.need(1), 1);
    Check.due("not TRUE", x.needs(PARALLEL, 0, 3, 3, 4), -2);
    Check.due("stays", x.need(1), 1);
    x.turn(0, false);
    Check.due("stays when turned", x.need(0), 0);
    Check.due("now the last", x.needs(PARALLEL, 1, 2, 3, 4), 2);
    Check.due("first", x.need(0), 1);
    Check.due("second", x.need(1), 2);
    Check.due("needs changes nothing", x.told(2), 2);
    Check.due("two ways to a line: the first", x.needs(COLLINEAR, 0, 1, 2), 1);
    Check.due("that one", x.need(0), 1);
    x.turn(0, true);
    x.turn(1, false);
    Check.due("by directions", x.needs(COLLINEAR, 2, 1, 0), 2);
    Check.due("by directions", x.need(0) * 10 + x.need(1), 2);
    Check.due("does not follow", x.needs(PERPENDICULAR, 0, 1, 0, 3), 0);
    Check.due("empty then", x.need(0), -1);
  }

  /** The heights of a triangle meet in one point: circles on two sides, and angles from there on. */
  private static void heights() {
    Check.sentence("Terms", "by the RULES again and again, till nothing new comes");
    // a, b, c, the feet d on bc and e on ac, h where ad and be meet
    int a = 0;
    int b = 1;
    int c = 2;
    Counted z = Counted.figure(0, 0, 10, 0, 4, 12, 8, 4, 1, 3, 4, 2);
    Check.due("d on bc", z.fact(COLLINEAR, 3, b, c), 0);
    Check.due("ad over bc", z.fact(PERPENDICULAR, a, 3, b, c), 1);
    Check.due("e on ac", z.fact(COLLINEAR, 4, a, c), 2);
    Check.due("be over ac", z.fact(PERPENDICULAR, b, 4, a, c), 3);
    Check.due("h on ad", z.fact(COLLINEAR, 5, a, 3), 4);
    Check.due("h on be", z.fact(COLLINEAR, 5, b, 4), 5);
    Check.due("a, b, d, e", z.follows(CIRCLE, a, b, 3, 4), 1);
    Check.due("c, d, e, h", z.follows(CIRCLE, c, 3, 4, 5), 1);
    Check.due("the third height", z.needs(PERPENDICULAR, c, 5, a, b), 6);
    Check.due("circles", z.told(5), 2);
  }

  public static void main(String[] args) {
    lines();
    circles();
    isosceles();
    diameters();
    centres();
    bisectors();
    midlines();
    parallelograms();
    rows();
    needed();
    heights();
    Check.end();
  }
}
