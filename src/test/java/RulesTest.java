/** Promises 7 to 13: each RULE alone, what it must not do, ROWS, and the HYPOTHESES that are needed. */
public final class RulesTest {
  private static final int COLLINEAR = Check.COLLINEAR;
  private static final int PARALLEL = Check.PARALLEL;
  private static final int PERPENDICULAR = Check.PERPENDICULAR;
  private static final int CIRCLE = Check.CIRCLE;
  private static final int EQUAL = Check.EQUAL;
  private static final int MIDDLE = Check.MIDDLE;
  private static final int ANGLE = Check.ANGLE;

  /** The FACT FOLLOWS from all HYPOTHESES, needs each, and without any one of them it is gone. */
  private static void needsAll(String rule, AngleChains x, int kind, int... points) {
    int all = x.told(1);
    Check.due(rule + " follows", Check.follows(x, kind, points), 1);
    Check.due(rule + " needs", Check.needs(x, kind, points), all);
    for (int h = 0; h < all; h++) {
      Check.due(rule + " need", x.need(h), h);
      x.turn(h, false);
      Check.due(rule + " without " + h, Check.follows(x, kind, points), 0);
      Check.due(rule + " needs without " + h, Check.needs(x, kind, points), 0);
      Check.due(rule + " need then", x.need(0), -1);
      x.turn(h, true);
      Check.needs(x, kind, points);
    }
    Check.due(rule + " follows again", Check.follows(x, kind, points), 1);
  }

  private static void lines() {
    AngleChains x = Check.figure(0, 0, 1, 0, 3, 0, 0, 5);
    Check.fact(x, PARALLEL, 0, 1, 1, 2);
    needsAll("1", x, COLLINEAR, 0, 1, 2);
    Check.due("1 line", x.line(0, 2), 7);
    Check.due("1 lines", x.told(4), 4);
    Check.due("1 rows of the lines that are left", x.told(7), 0);
    AngleChains y = Check.figure(0, 0, 1, 0, 3, 0, 0, 5);
    Check.fact(y, PERPENDICULAR, 0, 1, 0, 3);
    Check.fact(y, PERPENDICULAR, 3, 0, 2, 1);
    needsAll("1 across", y, COLLINEAR, 2, 0, 1);
    Check.due("1 across rows", y.told(7), 1);
    Check.due("1 across, another line", Check.follows(y, PERPENDICULAR, 0, 2, 0, 3), 1);
    AngleChains far = Check.figure(0, 0, 1, 0, 3, 0, 4, 0);
    Check.fact(far, PARALLEL, 0, 1, 2, 3);
    Check.due("no point in common", Check.follows(far, COLLINEAR, 0, 1, 2), 0);
    Check.due("no point in common, rows", far.told(7), 1);
    AngleChains joined = Check.figure(0, 0, 1, 0, 3, 0, 4, 0, 9, 0);
    Check.fact(joined, COLLINEAR, 0, 1, 2);
    Check.fact(joined, COLLINEAR, 2, 3, 4);
    Check.due("two lines, one point", joined.line(0, 4), 17);
    Check.due("two lines", joined.told(4), 6);
    Check.fact(joined, COLLINEAR, 0, 1, 3);
    Check.due("two points in common", joined.line(0, 4), 31);
    Check.due("one line", joined.told(4), 1);
    Check.due("no circles there", joined.told(5), 0);
    Check.due("lengths stay", joined.told(6), 10);
  }

  private static void circles() {
    int[] places = {5, 0, 3, 4, -4, 3, 0, -5, -5, 0};
    AngleChains x = Check.figure(places);
    Check.fact(x, CIRCLE, 0, 1, 2, 3);
    needsAll("2", x, ANGLE, 0, 2, 1, 2, 0, 3, 1, 3);
    Check.due("2 in another order", Check.follows(x, ANGLE, 3, 0, 2, 0, 3, 1, 2, 1), 1);
    Check.due("2 rows", x.told(7), 2);
    Check.due("2 circles", x.told(5), 1);
    Check.due("2 circle", x.circle(3, 1, 0), 15);
    Check.due("2 no fifth", x.circle(3, 1, 4), 26);
    Check.fact(x, CIRCLE, 4, 0, 1, 2);
    Check.due("three in common", x.circle(3, 1, 4), 31);
    Check.due("one circle", x.told(5), 1);
    Check.due("all four", Check.follows(x, CIRCLE, 4, 3, 2, 1), 1);
    AngleChains two = Check.figure(places);
    Check.fact(two, ANGLE, 0, 2, 1, 2, 0, 3, 1, 3);
    needsAll("3", two, CIRCLE, 3, 2, 1, 0);
    Check.due("3 and 2", Check.follows(two, ANGLE, 0, 1, 2, 1, 0, 3, 2, 3), 1);
    AngleChains row = Check.figure(0, 0, 1, 0, 3, 0, 4, 0, 0, 1);
    Check.fact(row, COLLINEAR, 0, 1, 2);
    Check.fact(row, COLLINEAR, 0, 1, 3);
    Check.due("a line is no circle", Check.follows(row, CIRCLE, 0, 1, 2, 3), -2);
    Check.due("a line is no circle", Check.needs(row, CIRCLE, 0, 1, 2, 3), -2);
    Check.due("no circles", row.told(5), 0);
    Check.due("three alone", row.circle(0, 1, 4), 19);
  }

  private static void isosceles() {
    AngleChains x = Check.figure(0, 3, -2, 0, 2, 0);
    Check.fact(x, EQUAL, 0, 1, 0, 2);
    needsAll("4", x, ANGLE, 0, 1, 1, 2, 1, 2, 0, 2);
    AngleChains back = Check.figure(0, 3, -2, 0, 2, 0);
    Check.fact(back, ANGLE, 1, 2, 0, 1, 2, 0, 1, 2);
    needsAll("5", back, EQUAL, 2, 0, 1, 0);
    AngleChains flat = Check.figure(0, 0, -2, 0, 2, 0);
    Check.fact(flat, EQUAL, 0, 1, 0, 2);
    Check.due("4 not proper", Check.follows(flat, ANGLE, 0, 1, 1, 2, 1, 2, 0, 2), 0);
    Check.due("4 not proper, rows", flat.told(7), 0);
    AngleChains turned = Check.figure(0, 0, -2, 0, 2, 0);
    Check.fact(turned, ANGLE, 0, 1, 1, 2, 1, 2, 0, 2);
    Check.due("5 not proper", Check.follows(turned, EQUAL, 0, 1, 0, 2), 0);
    Check.due("5 not proper, lines", turned.told(4), 3);
  }

  private static void diameters() {
    AngleChains x = Check.figure(0, 0, 5, 0, -5, 0, 3, 4);
    Check.fact(x, MIDDLE, 0, 1, 2);
    Check.fact(x, EQUAL, 0, 3, 0, 2);
    needsAll("6", x, PERPENDICULAR, 1, 3, 2, 3);
    AngleChains back = Check.figure(0, 0, 5, 0, -5, 0, 3, 4);
    Check.fact(back, PERPENDICULAR, 3, 2, 3, 1);
    Check.fact(back, MIDDLE, 0, 2, 1);
    needsAll("7", back, EQUAL, 0, 3, 0, 1);
    AngleChains parts = Check.figure(0, 0, 5, 0, -5, 0, 3, 4);
    Check.fact(parts, PERPENDICULAR, 3, 2, 3, 1);
    Check.fact(parts, EQUAL, 0, 1, 0, 2);
    Check.fact(parts, COLLINEAR, 0, 1, 2);
    needsAll("7 in parts", parts, EQUAL, 0, 3, 0, 1);
    Check.due("a middle follows", Check.follows(parts, MIDDLE, 0, 1, 2), 1);
  }

  private static void centres() {
    AngleChains x = Check.figure(0, 0, 5, 0, 3, 4, -4, 3, 0, -5);
    Check.fact(x, EQUAL, 0, 1, 0, 2);
    Check.fact(x, EQUAL, 0, 2, 0, 3);
    Check.fact(x, EQUAL, 0, 4, 0, 1);
    needsAll("8", x, CIRCLE, 1, 2, 3, 4);
    Check.due("8 lengths", x.told(6), 7);
    AngleChains side = Check.figure(0, 0, 5, 0, 3, 4, -4, 3, 0, -5);
    Check.fact(side, CIRCLE, 1, 2, 3, 4);
    Check.due("no centre follows", Check.follows(side, EQUAL, 0, 1, 0, 2), 0);
  }

  private static void bisectors() {
    AngleChains x = Check.figure(0, 0, 4, 0, 2, 1, 2, -3);
    Check.fact(x, EQUAL, 2, 0, 2, 1);
    Check.fact(x, EQUAL, 3, 0, 3, 1);
    needsAll("9", x, PERPENDICULAR, 2, 3, 0, 1);
    AngleChains back = Check.figure(0, 0, 4, 0, 2, 1, 2, -3);
    Check.fact(back, EQUAL, 2, 0, 2, 1);
    Check.fact(back, PERPENDICULAR, 2, 3, 0, 1);
    needsAll("10", back, EQUAL, 3, 0, 3, 1);
    AngleChains other = Check.figure(0, 0, 4, 0, 2, 1, 2, -3);
    Check.fact(other, EQUAL, 3, 0, 3, 1);
    Check.fact(other, PERPENDICULAR, 2, 3, 0, 1);
    needsAll("10 from the other", other, EQUAL, 2, 0, 2, 1);
    AngleChains middle = Check.figure(0, 0, 4, 0, 2, 0, 2, 3);
    Check.fact(middle, MIDDLE, 2, 0, 1);
    Check.fact(middle, PERPENDICULAR, 2, 3, 0, 2);
    needsAll("10 from the middle", middle, EQUAL, 3, 0, 3, 1);
  }

  private static void midlines() {
    AngleChains x = Check.figure(0, 0, 6, 0, 2, 8, 3, 0, 1, 4);
    Check.fact(x, MIDDLE, 3, 0, 1);
    Check.fact(x, MIDDLE, 4, 2, 0);
    needsAll("11", x, PARALLEL, 3, 4, 1, 2);
    Check.due("11 no lengths", x.told(6), 8);
    AngleChains flat = Check.figure(0, 0, 6, 0, 4, 0, 3, 0, 2, 0);
    Check.fact(flat, EQUAL, 3, 0, 3, 1);
    Check.fact(flat, EQUAL, 4, 2, 4, 0);
    Check.due("11 not on the lines", Check.follows(flat, PARALLEL, 3, 4, 1, 2), 0);
  }

  private static void parallelograms() {
    AngleChains x = Check.figure(0, 0, 3, 0, 1, 2, 4, 2);
    Check.fact(x, PARALLEL, 0, 1, 2, 3);
    Check.fact(x, PARALLEL, 0, 2, 1, 3);
    needsAll("12", x, EQUAL, 0, 1, 2, 3);
    needsAll("12", x, EQUAL, 0, 2, 1, 3);
    Check.due("12 lengths", x.told(6), 4);
    AngleChains flat = Check.figure(0, 0, 1, 0, 3, 0, 4, 0);
    Check.fact(flat, COLLINEAR, 0, 1, 2);
    Check.fact(flat, COLLINEAR, 0, 1, 3);
    Check.due("12 not proper", Check.follows(flat, EQUAL, 0, 1, 2, 3), 0);
    Check.due("12 not proper, lengths", flat.told(6), 6);
  }

  private static void rows() {
    AngleChains x = Check.figure(0, 0, 3, 0, 0, 2, 5, 1, 6, 1);
    Check.fact(x, ANGLE, 0, 1, 0, 2, 0, 2, 0, 1);
    Check.due("twice a row", Check.follows(x, PERPENDICULAR, 0, 1, 0, 2), 0);
    Check.due("twice a row", x.told(7), 1);
    Check.due("turned round", Check.follows(x, ANGLE, 0, 2, 0, 1, 0, 1, 0, 2), 1);
    Check.fact(x, PERPENDICULAR, 0, 1, 0, 2);
    Check.due("the row", x.told(7), 1);
    Check.due("the row needs", Check.needs(x, ANGLE, 0, 1, 0, 2, 0, 2, 0, 1), 1);
    Check.due("the first is enough", x.need(0), 0);
    Check.fact(x, PERPENDICULAR, 0, 2, 3, 4);
    Check.due("two right angles", Check.needs(x, PARALLEL, 0, 1, 3, 4), 2);
    Check.due("two right angles", x.need(0) * 10 + x.need(1), 12);
    Check.due("two right angles, rows", x.told(7), 2);
    AngleChains none = Check.figure(0, 0, 3, 0, 0, 2);
    Check.due("a line to itself", Check.follows(none, PARALLEL, 0, 1, 1, 0), 1);
    Check.due("from none", Check.needs(none, PARALLEL, 0, 1, 1, 0), 0);
    Check.due("a turn to itself", Check.follows(none, ANGLE, 0, 1, 0, 2, 0, 1, 0, 2), 1);
    Check.due("a length to itself", Check.follows(none, EQUAL, 0, 1, 1, 0), 1);
    Check.due("not TRUE", Check.follows(none, PERPENDICULAR, 0, 1, 0, 1), -2);
    Check.fact(none, PARALLEL, 0, 1, 1, 0);
    Check.due("nothing came", none.told(7), 0);
    Check.due("still from none", Check.needs(none, PARALLEL, 0, 1, 1, 0), 0);
    // 2 x = 0 and 2 y = 0, for x = d(01) - d(46) and y = d(23) - d(46), are not x - y = 0.
    AngleChains halves = Check.figure(0, 0, 1, 0, 0, 1, 2, 1, 5, 0, 9, 7, 5, 4);
    Check.fact(halves, ANGLE, 0, 1, 4, 6, 4, 6, 0, 1);
    Check.fact(halves, ANGLE, 2, 3, 4, 6, 4, 6, 2, 3);
    Check.due("two halves", Check.follows(halves, PARALLEL, 0, 1, 2, 3), 0);
    Check.due("two wholes", Check.needs(halves, ANGLE, 0, 1, 2, 3, 2, 3, 0, 1), 2);
    Check.due("two rows", halves.told(7), 2);
    // On a line all directions are the same: 2 x = 0 and 3 x = 0 make x = 0, for x = d(01) - d(23).
    AngleChains divided = Check.figure(0, 0, 1, 0, 2, 0, 3, 0, 4, 0, 5, 0, 6, 0);
    Check.fact(divided, ANGLE, 0, 1, 2, 3, 2, 3, 0, 1);
    Check.due("2 x", Check.follows(divided, PARALLEL, 0, 1, 2, 3), 0);
    Check.fact(divided, ANGLE, 0, 1, 2, 3, 4, 5, 2, 3);
    Check.fact(divided, ANGLE, 4, 5, 2, 3, 2, 3, 0, 1);
    Check.due("rows", divided.told(7), 2);
    Check.fact(divided, ANGLE, 2, 3, 4, 6, 4, 5, 2, 3);
    Check.fact(divided, ANGLE, 2, 3, 4, 6, 4, 6, 0, 1);
    Check.due("3 x and 2 x", Check.follows(divided, PARALLEL, 0, 1, 2, 3), 1);
  }

  private static void needed() {
    AngleChains x = Check.figure(0, 0, 1, 0, 3, 0, 0, 5, 1, 5);
    Check.fact(x, PARALLEL, 0, 1, 3, 4);
    Check.fact(x, COLLINEAR, 0, 1, 2);
    Check.fact(x, PARALLEL, 0, 2, 3, 4);
    Check.due("the last can be left out", Check.needs(x, PARALLEL, 1, 2, 3, 4), 2);
    Check.due("first", x.need(0), 0);
    Check.due("second", x.need(1), 1);
    Check.due("no third", x.need(2), -1);
    Check.due("none before the first", x.need(-1), -1);
    Check.due("refused", Check.needs(x, PARALLEL, 1, 2, 3), -1);
    Check.due("stays", x.need(1), 1);
    Check.due("not TRUE", Check.needs(x, PARALLEL, 0, 3, 3, 4), -2);
    Check.due("stays", x.need(1), 1);
    x.turn(0, false);
    Check.due("stays when turned", x.need(0), 0);
    Check.due("now the last", Check.needs(x, PARALLEL, 1, 2, 3, 4), 2);
    Check.due("first", x.need(0), 1);
    Check.due("second", x.need(1), 2);
    Check.due("needs changes nothing", x.told(2), 2);
    Check.due("two ways to a line: the first", Check.needs(x, COLLINEAR, 0, 1, 2), 1);
    Check.due("that one", x.need(0), 1);
    x.turn(0, true);
    x.turn(1, false);
    Check.due("by directions", Check.needs(x, COLLINEAR, 2, 1, 0), 2);
    Check.due("by directions", x.need(0) * 10 + x.need(1), 2);
    Check.due("does not follow", Check.needs(x, PERPENDICULAR, 0, 1, 0, 3), 0);
    Check.due("empty then", x.need(0), -1);
  }

  /** The heights of a triangle meet in one point: circles on two sides, and angles from there on. */
  private static void heights() {
    // a, b, c, the feet d on bc and e on ac, h where ad and be meet
    int a = 0;
    int b = 1;
    int c = 2;
    AngleChains z = Check.figure(0, 0, 10, 0, 4, 12, 8, 4, 1, 3, 4, 2);
    Check.due("d on bc", Check.fact(z, COLLINEAR, 3, b, c), 0);
    Check.due("ad over bc", Check.fact(z, PERPENDICULAR, a, 3, b, c), 1);
    Check.due("e on ac", Check.fact(z, COLLINEAR, 4, a, c), 2);
    Check.due("be over ac", Check.fact(z, PERPENDICULAR, b, 4, a, c), 3);
    Check.due("h on ad", Check.fact(z, COLLINEAR, 5, a, 3), 4);
    Check.due("h on be", Check.fact(z, COLLINEAR, 5, b, 4), 5);
    Check.due("a, b, d, e", Check.follows(z, CIRCLE, a, b, 3, 4), 1);
    Check.due("c, d, e, h", Check.follows(z, CIRCLE, c, 3, 4, 5), 1);
    Check.due("the third height", Check.needs(z, PERPENDICULAR, c, 5, a, b), 6);
    Check.due("circles", z.told(5), 2);
  }

  public static void main(String[] args) {
    lines();
    circles();
    isosceles();
    diameters();
    centres();
    bisectors();
    midlines();
    parallelograms();
    rows();
    needed();
    heights();
    Check.end();
  }
}
