/** The part "Terms": LINES, CIRCLES, LENGTHS and ROWS at first, when they become one, and the edges of the RULES. */
public final class TermsFollowsTest {
  private static final String TERMS = "Terms";
  private static final String PROPER = "(\"proper\": not COLLINEAR in THE FIGURE)";

  private static int[] f(int... points) {
    return points;
  }

  private static void linesAtFirst() {
    Check.sentence(TERMS, "each two POINTS are on just one; at first each two are one");
    Counted x = Counted.figure(0, 0, 1, 0, 2, 0, 3, 0, 4, 0, 5, 0, 6, 0);
    for (int a = 0; a < 7; a++) {
      for (int b = 0; b < a; b++) Check.due("line(" + a + ", " + b + ")", x.line(a, b), 1 << a | 1 << b);
    }
    Check.due("LINES", x.told(4), 21);
    Check.due("none FOLLOWS from the places", x.follows(Check.COLLINEAR, 0, 1, 2), 0);
  }

  private static void linesInCommon() {
    Check.sentence(TERMS, "LINES with two POINTS in common are one always");
    Counted x = Counted.figure(0, 0, 1, 0, 3, 0, 4, 0, 9, 0);
    x.fact(Check.COLLINEAR, 0, 1, 2);
    x.fact(Check.COLLINEAR, 2, 3, 4);
    Check.due("one in common: the first", x.line(0, 1), 7);
    Check.due("one in common: the second", x.line(3, 4), 28);
    Check.due("one in common: across", x.line(0, 4), 17);
    Check.due("one in common: LINES", x.told(4), 6);
    x.fact(Check.COLLINEAR, 1, 2, 3);
    for (int a = 0; a < 5; a++) {
      for (int b = 0; b < a; b++) Check.due("two in common: line(" + a + ", " + b + ")", x.line(a, b), 31);
    }
    Check.due("two in common: LINES", x.told(4), 1);
    x.turn(2, false);
    Check.due("one in common again", x.line(0, 1), 7);
  }

  private static void circlesAtFirst() {
    Check.sentence(TERMS, "each three that are not COLLINEAR in THE FIGURE are on just one, at first these three alone");
    Counted x = Counted.figure(5, 0, 3, 4, 0, 5, -4, 3, -5, 0, -3, -4, 0, -5);
    for (int a = 0; a < 7; a++) {
      for (int b = 0; b < a; b++) {
        for (int c = 0; c < b; c++) Check.due("circle(" + a + ", " + b + ", " + c + ")", x.circle(a, b, c), 1 << a | 1 << b | 1 << c);
      }
    }
    Check.due("CIRCLES with four", x.told(5), 0);
    Check.due("none FOLLOWS from the places", x.follows(Check.CIRCLE, 0, 1, 2, 3), 0);
  }

  private static void circlesInCommon() {
    Check.sentence(TERMS, "(CIRCLES with three such POINTS in common are one always)");
    Counted x = Counted.figure(5, 0, 3, 4, 0, 5, -4, 3, -5, 0, -3, -4);
    x.fact(Check.CIRCLE, 0, 1, 2, 3);
    x.fact(Check.CIRCLE, 0, 1, 4, 5);
    Check.due("two in common: the first", x.circle(0, 1, 2), 15);
    Check.due("two in common: the second", x.circle(0, 1, 4), 51);
    Check.due("two in common: across", x.circle(1, 2, 4), 22);
    Check.due("two in common: CIRCLES", x.told(5), 2);
    x.fact(Check.CIRCLE, 0, 1, 2, 4);
    for (int a = 0; a < 6; a++) {
      for (int b = 0; b < a; b++) {
        for (int c = 0; c < b; c++) Check.due("three in common: circle(" + a + ", " + b + ", " + c + ")", x.circle(a, b, c), 63);
      }
    }
    Check.due("three in common: CIRCLES", x.told(5), 1);
    Counted two = Counted.figure(5, 0, -5, 0, 3, 4, 0, 5, 12, 17, 0, 25);
    two.fact(Check.CIRCLE, 0, 1, 2, 3);
    two.fact(Check.CIRCLE, 0, 1, 4, 5);
    Check.due("two circles of THE FIGURE: the first", two.circle(0, 1, 3), 15);
    Check.due("two circles of THE FIGURE: the second", two.circle(0, 1, 5), 51);
    Check.due("two circles of THE FIGURE", two.told(5), 2);
  }

  private static void lengthsAtFirst() {
    Check.sentence(TERMS, "each pair is in just one, at first alone; of two that are EQUAL they are one");
    Counted x = Counted.figure(0, 0, 1, 0, 2, 0, 3, 0);
    for (int a = 0; a < 4; a++) {
      for (int b = a + 1; b < 4; b++) Check.due("length(" + a + ", " + b + ")", x.length(a, b), 12 * a + b);
    }
    Check.due("LENGTHS", x.told(6), 6);
    x.fact(Check.EQUAL, 1, 2, 2, 3);
    Check.due("one of two", x.length(2, 3), 14);
    Check.due("LENGTHS", x.told(6), 5);
    x.fact(Check.EQUAL, 0, 1, 2, 3);
    Check.due("one of three", x.length(1, 2), 1);
    Check.due("LENGTHS", x.told(6), 4);
    x.fact(Check.EQUAL, 0, 1, 1, 2);
    Check.due("one already", x.told(6), 4);
    x.fact(Check.EQUAL, 0, 2, 2, 0);
    Check.due("one with itself", x.told(6), 4);
  }

  private static void quarterTurns() {
    Check.sentence(TERMS, "each LINE has one, d(..), in quarter turns, modulo 2");
    Counted x = Counted.figure(0, 0, 4, 0, 4, 3, 0, 3);
    x.fact(Check.PERPENDICULAR, 0, 1, 1, 2);
    Check.due("-1 is 1", x.follows(Check.PERPENDICULAR, 1, 2, 0, 1), 1);
    Check.due("1 is not 0", x.follows(Check.PARALLEL, 0, 1, 1, 2), Check.FALSE);
    Check.due("2 is 0", x.follows(Check.ANGLE, 0, 1, 1, 2, 1, 2, 0, 1), 1);
    x.fact(Check.PERPENDICULAR, 1, 2, 2, 3);
    Check.due("1 and 1 are 0", x.needs(Check.PARALLEL, 0, 1, 2, 3), 2);
    x.fact(Check.PERPENDICULAR, 2, 3, 3, 0);
    Check.due("1 and 1 and 1 are 1", x.needs(Check.PERPENDICULAR, 3, 0, 0, 1), 3);
    Check.due("1 less 1 is 0", x.needs(Check.ANGLE, 0, 1, 1, 2, 2, 3, 3, 0), 2);
    Check.due("1 and 1 are 0, in one ROW", x.needs(Check.ANGLE, 0, 1, 1, 2, 3, 0, 2, 3), 2);
  }

  private static void rowsOfNone() {
    Check.sentence(TERMS, "all sums of whole multiples of those that came (that all 0 is 2 is one of them)");
    Counted x = Counted.figure(0, 0, 4, 0, 4, 3, 0, 3, 1, 1);
    Check.due("0 = 0 FOLLOWS from none", x.follows(Check.PARALLEL, 0, 1, 1, 0), 1);
    Check.due("0 = 0 FOLLOWS from none", x.follows(Check.ANGLE, 0, 1, 1, 2, 0, 1, 1, 2), 1);
    Check.due("all 0 is 2 does not count", x.told(7), 0);
    x.fact(Check.ANGLE, 0, 1, 1, 2, 1, 2, 0, 1);
    Check.due("a half of a ROW does not FOLLOW", x.follows(Check.PERPENDICULAR, 0, 1, 1, 2), 0);
    Check.due("the ROW times -1", x.follows(Check.ANGLE, 1, 2, 0, 1, 0, 1, 1, 2), 1);
    Check.due("one ROW", x.told(7), 1);
    x.fact(Check.ANGLE, 1, 2, 0, 1, 0, 1, 1, 2);
    Check.due("one ROW, told twice", x.told(7), 1);
  }

  private static void addedNumbers() {
    Check.sentence(TERMS, "When LINES become one, so do their DIRECTIONS: their numbers in a ROW are added");
    Counted x = Counted.figure(0, 0, 4, 0, 9, 0, 1, 1, 1, 7);
    x.fact(Check.PERPENDICULAR, 0, 1, 3, 4);
    Check.due("another LINE", x.follows(Check.PERPENDICULAR, 3, 4, 1, 2), 0);
    x.fact(Check.COLLINEAR, 0, 1, 2);
    Check.due("the same LINE", x.needs(Check.PERPENDICULAR, 3, 4, 1, 2), 2);
    Check.due("the same LINE by the ends", x.needs(Check.PERPENDICULAR, 0, 2, 4, 3), 2);
    Check.due("one ROW", x.told(7), 1);
    Counted y = Counted.figure(0, 0, 4, 0, 9, 0, 1, 1, 1, 7);
    y.fact(Check.ANGLE, 0, 1, 3, 4, 3, 4, 1, 2);
    y.fact(Check.COLLINEAR, 0, 1, 2);
    Check.due("1 and 1 are 2", y.needs(Check.ANGLE, 0, 2, 3, 4, 3, 4, 0, 2), 2);
    Check.due("2 is not 1", y.follows(Check.PERPENDICULAR, 0, 2, 3, 4), 0);
    Check.due("one ROW", y.told(7), 1);
    Counted z = Counted.figure(0, 0, 4, 0, 9, 0, 1, 1, 1, 7);
    z.fact(Check.ANGLE, 0, 1, 3, 4, 1, 2, 3, 4);
    z.turn(0, false);
    Check.due("OFF", z.told(7), 0);
    z.turn(0, true);
    Check.due("1 and -1 are 0", z.line(0, 2), 7);
    Check.due("no ROW is left", z.told(7), 0);
  }

  /** LINES, CIRCLES of four, LENGTHS, ROWS. */
  private static String counts(Counted x) {
    return x.told(4) + " " + x.told(5) + " " + x.told(6) + " " + x.told(7);
  }

  /** One HYPOTHESIS of each kind alone: what it is for the DIRECTIONS, the LINES, the CIRCLES, the LENGTHS. */
  private static void hypotheses() {
    int[] places = {0, 0, 4, 0, 2, 0, 0, 3, 4, 3, 7, 11};
    Check.due("none", counts(Counted.figure(places)), "15 0 15 0");

    Check.sentence(TERMS, "HYPOTHESES: 0: one LINE");
    Counted zero = Counted.figure(places);
    zero.fact(Check.COLLINEAR, 0, 1, 2);
    Check.due("LINES, CIRCLES, LENGTHS, ROWS", counts(zero), "13 0 15 0");
    Check.due("the LINE", zero.line(0, 1), 7);

    Check.sentence(TERMS, "1: d(ab) - d(cd) = 0");
    Counted one = Counted.figure(places);
    one.fact(Check.PARALLEL, 0, 1, 3, 4);
    Check.due("LINES, CIRCLES, LENGTHS, ROWS", counts(one), "15 0 15 1");
    Check.due("from the other line", one.follows(Check.PARALLEL, 3, 4, 0, 1), 1);
    Check.due("as turns from a third", one.follows(Check.ANGLE, 5, 0, 0, 1, 5, 0, 3, 4), 1);
    Check.due("as turns to a third", one.follows(Check.ANGLE, 3, 4, 5, 1, 0, 1, 5, 1), 1);

    Check.sentence(TERMS, "2: d(ab) - d(cd) = 1");
    Counted two = Counted.figure(places);
    two.fact(Check.PERPENDICULAR, 0, 1, 0, 3);
    Check.due("LINES, CIRCLES, LENGTHS, ROWS", counts(two), "15 0 15 1");
    Check.due("from the other line", two.follows(Check.PERPENDICULAR, 0, 3, 0, 1), 1);
    Check.due("there and back", two.follows(Check.ANGLE, 0, 3, 0, 1, 0, 1, 0, 3), 1);

    Check.sentence(TERMS, "3: one CIRCLE");
    Counted three = Counted.figure(places);
    three.fact(Check.CIRCLE, 0, 1, 3, 4);
    Check.due("LINES, CIRCLES, LENGTHS, ROWS", counts(three), "15 1 15 2");
    Check.due("the CIRCLE", three.circle(0, 1, 3), 27);

    Check.sentence(TERMS, "4: EQUAL");
    Counted four = Counted.figure(places);
    four.fact(Check.EQUAL, 0, 1, 4, 3);
    Check.due("LINES, CIRCLES, LENGTHS, ROWS", counts(four), "15 0 14 0");
    Check.due("the LENGTH", four.length(3, 4), 1);

    Check.sentence(TERMS, "5: one LINE, and |ma| = |mb|");
    Counted five = Counted.figure(places);
    five.fact(Check.MIDDLE, 2, 0, 1);
    Check.due("LINES, CIRCLES, LENGTHS, ROWS", counts(five), "13 0 14 0");
    Check.due("the LINE", five.line(0, 1), 7);
    Check.due("the LENGTH", five.length(1, 2), 2);
    Check.due("the LENGTH of the whole", five.length(0, 1), 1);
    Check.due("COLLINEAR", five.needs(Check.COLLINEAR, 0, 1, 2), 1);
    Check.due("EQUAL", five.needs(Check.EQUAL, 2, 1, 2, 0), 1);

    Check.sentence(TERMS, "6: d(ab) - d(cd) - d(ef) + d(gh) = 0");
    Counted six = Counted.figure(places);
    six.fact(Check.ANGLE, 0, 1, 1, 3, 3, 4, 3, 1);
    Check.due("d(13) - d(31) is 0", counts(six), "15 0 15 1");
    Check.due("d(01) - d(34) is 0 then", six.follows(Check.PARALLEL, 0, 1, 3, 4), 1);
    Counted turned = Counted.figure(places);
    turned.fact(Check.ANGLE, 0, 1, 0, 4, 1, 3, 0, 1);
    Check.due("LINES, CIRCLES, LENGTHS, ROWS", counts(turned), "15 0 15 1");
    Check.due("the middle ones the other way", turned.follows(Check.ANGLE, 0, 1, 1, 3, 0, 4, 0, 1), 1);
    Check.due("both turns the other way", turned.follows(Check.ANGLE, 0, 4, 0, 1, 0, 1, 1, 3), 1);
    Check.due("the second turn first", turned.follows(Check.ANGLE, 1, 3, 0, 1, 0, 1, 0, 4), 1);
    Check.due("one turn the other way", turned.isTrue(Check.ANGLE, 0, 4, 0, 1, 1, 3, 0, 1), 0);
  }

  private static void factsFollow() {
    Check.sentence(TERMS, "A FACT FOLLOWS: 0: the three are on one LINE");
    Counted zero = Counted.figure(0, 0, 1, 0, 3, 0, 4, 0);
    zero.fact(Check.COLLINEAR, 0, 1, 2);
    zero.fact(Check.COLLINEAR, 3, 1, 2);
    Check.due("three that were not told", zero.needs(Check.COLLINEAR, 0, 3, 1), 2);

    Check.sentence(TERMS, "3: the four are on one CIRCLE (any three of them that are proper have it)");
    Counted three = Counted.figure(5, 0, 3, 4, 0, 5, -4, 3, -5, 0);
    three.fact(Check.CIRCLE, 0, 1, 2, 3);
    three.fact(Check.CIRCLE, 4, 3, 2, 1);
    Check.due("four that were not told", three.needs(Check.CIRCLE, 0, 4, 1, 2), 2);
    three.turn(1, false);
    Check.due("three of them have it, the fourth is not on it", three.follows(Check.CIRCLE, 0, 1, 2, 4), 0);

    Check.sentence(TERMS, "4: one LENGTH");
    Counted four = Counted.figure(0, 0, 1, 0, 2, 0, 3, 0, 4, 0);
    four.fact(Check.EQUAL, 0, 1, 1, 2);
    four.fact(Check.EQUAL, 2, 3, 3, 4);
    Check.due("two and two", four.follows(Check.EQUAL, 0, 1, 3, 4), 0);
    four.fact(Check.EQUAL, 2, 1, 3, 2);
    Check.due("two that were not told", four.needs(Check.EQUAL, 0, 1, 3, 4), 3);

    Check.sentence(TERMS, "1, 2, 6: its ROW follows");
    Counted rows = Counted.figure(0, 0, 4, 0, 0, 3, 4, 3, 9, 0, 9, 3);
    rows.fact(Check.PERPENDICULAR, 0, 1, 0, 2);
    rows.fact(Check.PERPENDICULAR, 2, 3, 0, 2);
    rows.fact(Check.ANGLE, 0, 2, 0, 1, 2, 3, 4, 5);
    Check.due("1: a sum of two", rows.needs(Check.PARALLEL, 0, 1, 2, 3), 2);
    Check.due("2: a sum of two", rows.needs(Check.PERPENDICULAR, 4, 5, 2, 3), 2);
    Check.due("2: a sum of two", rows.left(), "0 2 ");
    Check.due("6: a sum of two", rows.needs(Check.ANGLE, 0, 1, 0, 2, 2, 3, 4, 5), 2);
    Check.due("1: no sum", rows.follows(Check.PARALLEL, 4, 5, 1, 3), 0);
    Check.due("2: no sum", rows.follows(Check.PERPENDICULAR, 0, 1, 1, 3), 0);
    Check.due("6: no sum", rows.follows(Check.ANGLE, 0, 1, 0, 3, 2, 3, 2, 1), Check.FALSE);
    Check.due("6: no sum", rows.follows(Check.ANGLE, 0, 1, 0, 3, 2, 1, 2, 3), 0);
  }

  private static void noMore() {
    Check.sentence(TERMS, "WHAT FOLLOWS from HYPOTHESES is what is told here, and no more");
    Counted x = Counted.figure(0, 0, 1, 0, 2, 0, 3, 0);
    x.fact(Check.COLLINEAR, 0, 1, 2);
    x.fact(Check.COLLINEAR, 1, 2, 3);
    x.fact(Check.EQUAL, 0, 1, 1, 2);
    x.fact(Check.EQUAL, 1, 2, 2, 3);
    Check.due("sums of LENGTHS are none", x.follows(Check.EQUAL, 0, 2, 1, 3), 0);
    Check.due("LENGTHS", x.told(6), 4);
    // Sides that are the same in both triangles: no RULE tells of their angles.
    Counted y = Counted.figure(0, 0, 4, 0, 1, 2, 10, 0, 14, 0, 11, 2);
    y.fact(Check.EQUAL, 0, 1, 3, 4);
    y.fact(Check.EQUAL, 0, 2, 3, 5);
    y.fact(Check.EQUAL, 1, 2, 4, 5);
    Check.due("angles of like triangles do not FOLLOW", y.follows(Check.ANGLE, 0, 1, 0, 2, 3, 4, 3, 5), 0);
    Check.due("ROWS", y.told(7), 0);
  }

  private static void againAndAgain() {
    Check.sentence(TERMS, "by the RULES again and again, till nothing new comes");
    // Three right angles make LENGTHS by RULE 12 and a CIRCLE by RULE 3; by RULES 2 and 5 the middle.
    Counted x = Counted.figure(0, 0, 4, 0, 4, 4, 0, 4, 2, 2);
    x.fact(Check.PERPENDICULAR, 0, 1, 1, 2);
    x.fact(Check.PERPENDICULAR, 1, 2, 2, 3);
    x.fact(Check.PERPENDICULAR, 2, 3, 3, 0);
    x.fact(Check.EQUAL, 0, 1, 1, 2);
    x.fact(Check.COLLINEAR, 0, 4, 2);
    x.fact(Check.COLLINEAR, 1, 4, 3);
    Check.due("12: sides", x.needs(Check.EQUAL, 0, 1, 2, 3), 3);
    Check.due("12: sides", x.needs(Check.EQUAL, 2, 3, 3, 0), 4);
    Check.due("9: diagonals", x.needs(Check.PERPENDICULAR, 0, 2, 1, 3), 4);
    Check.due("5: the middle", x.needs(Check.MIDDLE, 4, 0, 2), 5);
    Check.due("5: the middle", x.left(), "0 1 2 4 5 ");
    Check.due("all corners are as far from it", x.follows(Check.EQUAL, 4, 0, 4, 1), 1);
    Check.due("3: they are on one CIRCLE", x.circle(0, 1, 2), 15);
    Check.due("LENGTHS", x.told(6), 4);
    Check.due("LINES", x.told(4), 6);
    // The LINE comes by RULE 1 and brings no ROW that is new, but RULE 6 has waited for it.
    int[][] orders = {{0, 1, 2, 3}, {1, 2, 3, 0}, {1, 2, 0, 3}, {2, 3, 1, 0}, {3, 1, 2, 0}, {3, 0, 1, 2}};
    int[][] places = {{0, 0}, {5, 0}, {-5, 0}, {3, 4}};
    for (int[] o : orders) {
      Counted y = new Counted();
      for (int number = 0; number < 4; number++) {
        for (int p = 0; p < 4; p++) if (o[p] == number) y.point(places[p][0], places[p][1]);
      }
      y.fact(Check.EQUAL, o[0], o[1], o[0], o[2]);
      y.fact(Check.EQUAL, o[0], o[1], o[0], o[3]);
      Check.due("ROWS of the LENGTHS", y.told(7), 2);
      y.fact(Check.PARALLEL, o[0], o[1], o[1], o[2]);
      y.fact(Check.PARALLEL, o[0], o[1], o[0], o[2]);
      Check.due("6 behind 1", y.follows(Check.PERPENDICULAR, o[1], o[3], o[2], o[3]), 1);
      Check.due("6 behind 1", y.needs(Check.PERPENDICULAR, o[1], o[3], o[2], o[3]), 3);
    }
    // One half of what RULE 12 brings is there already, the other is not.
    for (int half = 0; half < 2; half++) {
      Counted z = Counted.figure(0, 0, 3, 0, 1, 2, 4, 2);
      z.fact(Check.EQUAL, half == 0 ? f(0, 1, 2, 3) : f(0, 2, 1, 3));
      Check.due("LENGTHS", z.told(6), 5);
      z.fact(Check.PARALLEL, 0, 1, 2, 3);
      z.fact(Check.PARALLEL, 0, 2, 1, 3);
      Check.due("12: the other half", z.follows(Check.EQUAL, half == 0 ? f(0, 2, 1, 3) : f(0, 1, 2, 3)), 1);
      Check.due("LENGTHS", z.told(6), 4);
    }
  }

  private static void notProper() {
    Check.sentence(TERMS, PROPER + " 3: a, b, c proper, a, b, d proper");
    Counted three = Counted.figure(0, 0, 1, 0, 3, 0, 7, 0);
    Check.due("its ROW, on a line", three.fact(Check.ANGLE, 0, 2, 1, 2, 0, 3, 1, 3), 0);
    Check.due("no CIRCLE", three.told(5), 0);
    Check.due("no CIRCLE of three", three.circle(0, 1, 2), 0);
    Check.due("no other ROW", three.told(7), 1);

    Check.sentence(TERMS, PROPER + " 4 |ab| = |ac|, proper");
    Counted four = Counted.figure(0, 0, -2, 0, 2, 0);
    four.fact(Check.EQUAL, 0, 1, 0, 2);
    Check.due("not proper", four.follows(Check.ANGLE, 0, 1, 1, 2, 1, 2, 0, 2), 0);
    Counted fourProper = Counted.figure(0, 1, -2, 0, 2, 0);
    fourProper.fact(Check.EQUAL, 0, 1, 0, 2);
    Check.due("proper by one", fourProper.follows(Check.ANGLE, 0, 1, 1, 2, 1, 2, 0, 2), 1);

    Check.sentence(TERMS, PROPER + " 5 that, proper: |ab| = |ac|");
    Counted five = Counted.figure(0, 0, -2, 0, 2, 0);
    five.fact(Check.ANGLE, 0, 1, 1, 2, 1, 2, 0, 2);
    Check.due("not proper", five.follows(Check.EQUAL, 0, 1, 0, 2), 0);
    Counted fiveProper = Counted.figure(0, 1, -2, 0, 2, 0);
    fiveProper.fact(Check.ANGLE, 0, 1, 1, 2, 1, 2, 0, 2);
    Check.due("proper by one", fiveProper.follows(Check.EQUAL, 0, 1, 0, 2), 1);

    Check.sentence(TERMS, PROPER + " 11 .. a, b, c proper: d(mn) - d(bc) = 0");
    Counted eleven = Counted.figure(0, 0, 4, 0, 12, 0, 2, 0, 6, 0);
    eleven.fact(Check.MIDDLE, 3, 0, 1);
    eleven.fact(Check.MIDDLE, 4, 0, 2);
    Check.due("not proper", eleven.follows(Check.PARALLEL, 3, 4, 1, 2), 0);
    Counted elevenProper = Counted.figure(0, 0, 4, 0, 12, 2, 2, 0, 6, 1);
    elevenProper.fact(Check.MIDDLE, 3, 0, 1);
    elevenProper.fact(Check.MIDDLE, 4, 0, 2);
    Check.due("proper by one", elevenProper.follows(Check.PARALLEL, 3, 4, 1, 2), 1);

    Check.sentence(TERMS, PROPER + " 12 .. a, b, c proper: |ab| = |cd|, |ac| = |bd|");
    Counted twelve = Counted.figure(0, 0, 1, 0, 3, 0, 4, 0);
    twelve.fact(Check.PARALLEL, 0, 1, 2, 3);
    twelve.fact(Check.PARALLEL, 0, 2, 1, 3);
    Check.due("not proper", twelve.follows(Check.EQUAL, 0, 1, 2, 3), 0);
    Check.due("not proper, the others", twelve.follows(Check.EQUAL, 0, 2, 1, 3), 0);
    Counted twelveProper = Counted.figure(0, 0, 1, 0, 3, 1, 4, 1);
    twelveProper.fact(Check.PARALLEL, 0, 1, 2, 3);
    twelveProper.fact(Check.PARALLEL, 0, 2, 1, 3);
    Check.due("proper by one", twelveProper.follows(Check.EQUAL, 0, 1, 2, 3), 1);
    Check.due("proper by one, the others", twelveProper.follows(Check.EQUAL, 0, 2, 1, 3), 1);
  }

  private static void pointInCommon() {
    Check.sentence(TERMS, "1 two LINES with a POINT in common, and their DIRECTIONS differ by 0: they are one");
    Counted apart = Counted.figure(0, 0, 1, 0, 3, 0, 4, 0);
    apart.fact(Check.PARALLEL, 0, 1, 2, 3);
    Check.due("none in common", apart.line(0, 1), 3);
    Check.due("none in common: LINES", apart.told(4), 6);
    Check.due("none in common: ROWS", apart.told(7), 1);
    Counted joined = Counted.figure(0, 0, 1, 0, 3, 0, 4, 0);
    joined.fact(Check.PARALLEL, 0, 1, 1, 2);
    Check.due("one in common", joined.line(0, 2), 7);
    Check.due("one in common: LINES", joined.told(4), 4);
    Check.due("one in common: ROWS of the LINES that are left", joined.told(7), 0);
    Counted half = Counted.figure(0, 0, 1, 0, 3, 0, 4, 0);
    half.fact(Check.ANGLE, 0, 1, 1, 2, 1, 2, 0, 1);
    Check.due("differ by 0 when taken twice", half.line(0, 2), 5);
    Check.due("differ by 0 when taken twice: LINES", half.told(4), 6);
  }

  private static void notOnTheLine() {
    Check.sentence(TERMS, "6 o on the LINE of a and b, |oa| = |ob|, |oa| = |oc|");
    Counted six = Counted.figure(0, 0, 5, 0, -5, 0, 3, 4);
    six.fact(Check.EQUAL, 0, 1, 0, 2);
    six.fact(Check.EQUAL, 0, 1, 0, 3);
    Check.due("not on the LINE yet", six.follows(Check.PERPENDICULAR, 1, 3, 2, 3), 0);
    six.fact(Check.COLLINEAR, 0, 1, 2);
    Check.due("on the LINE", six.needs(Check.PERPENDICULAR, 1, 3, 2, 3), 3);

    Check.sentence(TERMS, "7 o on the LINE of a and b, |oa| = |ob|, a, b, c proper, d(ac) - d(bc) = 1");
    Counted seven = Counted.figure(0, 0, 5, 0, -5, 0, 3, 4);
    seven.fact(Check.PERPENDICULAR, 1, 3, 2, 3);
    seven.fact(Check.COLLINEAR, 0, 1, 2);
    Check.due("not in the middle yet", seven.follows(Check.EQUAL, 0, 1, 0, 3), 0);
    seven.fact(Check.EQUAL, 0, 1, 0, 2);
    Check.due("in the middle", seven.needs(Check.EQUAL, 0, 1, 0, 3), 3);

    Check.sentence(TERMS, "8 |oa| = |ob|, |oa| = |oc|, |oa| = |od|");
    Counted eight = Counted.figure(0, 0, 5, 0, 3, 4, -4, 3, 0, -5);
    eight.fact(Check.EQUAL, 0, 1, 0, 2);
    eight.fact(Check.EQUAL, 0, 3, 0, 4);
    Check.due("two and two", eight.follows(Check.CIRCLE, 1, 2, 3, 4), 0);
    eight.fact(Check.EQUAL, 0, 2, 0, 3);
    Check.due("all four", eight.needs(Check.CIRCLE, 1, 2, 3, 4), 3);

    Check.sentence(TERMS, "A FACT FOLLOWS: .. 5: as 0 and 4");
    Counted middle = Counted.figure(0, 0, 1, 0, 2, 0);
    middle.fact(Check.COLLINEAR, 0, 1, 2);
    Check.due("the LINE alone", middle.follows(Check.MIDDLE, 1, 0, 2), 0);
    middle.turn(0, false);
    middle.fact(Check.EQUAL, 1, 0, 1, 2);
    Check.due("the LENGTH alone", middle.follows(Check.MIDDLE, 1, 0, 2), 0);
    middle.turn(0, true);
    Check.due("both", middle.needs(Check.MIDDLE, 1, 0, 2), 2);
  }

  public static void main(String[] args) {
    linesAtFirst();
    linesInCommon();
    circlesAtFirst();
    circlesInCommon();
    lengthsAtFirst();
    quarterTurns();
    rowsOfNone();
    addedNumbers();
    hypotheses();
    factsFollow();
    noMore();
    againAndAgain();
    notProper();
    pointInCommon();
    notOnTheLine();
    Check.end();
  }
}
