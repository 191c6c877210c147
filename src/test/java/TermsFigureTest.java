/** The part "Terms": how many POINTS and HYPOTHESES, which coordinates, which POINTS differ, what is TRUE. */
public final class TermsFigureTest {
  private static final String TERMS = "Terms";

  private static void points() {
    Check.sentence(TERMS, "POINTS 0, 1, .. are at most 7");
    Counted x = new Counted();
    for (int size = 0; size <= 7; size++) {
      Check.due("told(0) of " + size, x.told(0), size);
      if (size > 0) Check.due("the last of " + size, x.line(0, size - 1), size == 1 ? 0 : 1 | 1 << size - 1);
      Check.due("none behind the last of " + size, x.line(0, size), 0);
      Check.due("of() none behind the last of " + size, x.of(size), Check.NONE);
      if (size < 7) Check.due("point " + size, x.point(size, size * size), size);
    }
    Check.due("an eighth", x.point(7, 49), Check.NONE);
    Check.due("told(0) then", x.told(0), 7);
    Check.due("of(6) then", x.of(6), 1);
    Check.due("of(7) then", x.of(7), Check.NONE);
  }

  private static void coordinates() {
    Check.sentence(TERMS, "with whole coordinates from -1000 to 1000");
    int[] refused = {-1001, 1001, -1002, 1002, -2000, 2000, 64536, -64536, 65536, -65536,
      Integer.MIN_VALUE, Integer.MIN_VALUE + 1000, Integer.MAX_VALUE - 999, Integer.MAX_VALUE};
    Counted x = new Counted();
    for (int value : refused) {
      Check.due("point(" + value + ", 0)", x.point(value, 0), Check.NONE);
      Check.due("point(0, " + value + ")", x.point(0, value), Check.NONE);
      Check.due("point(" + value + ", 1000)", x.point(value, 1000), Check.NONE);
      Check.due("point(-1000, " + value + ")", x.point(-1000, value), Check.NONE);
      Check.due("point(" + value + ", " + value + ")", x.point(value, value), Check.NONE);
    }
    Check.due("told(0) then", x.told(0), 0);
    Check.due("point(-1000, 0)", x.point(-1000, 0), 0);
    Check.due("point(1000, 0)", x.point(1000, 0), 1);
    Check.due("point(0, -1000)", x.point(0, -1000), 2);
    Check.due("point(0, 1000)", x.point(0, 1000), 3);
    Check.due("point(-1000, 1000)", x.point(-1000, 1000), 4);
    Check.due("point(1000, -1000)", x.point(1000, -1000), 5);
    Check.due("point(-999, 999)", x.point(-999, 999), 6);
  }

  private static void noTwoTheSame() {
    Check.sentence(TERMS, "no two are the same");
    Counted x = Counted.figure(3, -5, 0, 0);
    Check.due("the place of 0", x.point(3, -5), Check.NONE);
    Check.due("the place of 1", x.point(0, 0), Check.NONE);
    Check.due("x and y the other way", x.point(-5, 3), 2);
    Check.due("the same x", x.point(3, -4), 3);
    Check.due("the same y", x.point(4, -5), 4);
    Check.due("the other signs", x.point(-3, 5), 5);
    Check.due("the place of 5", x.point(-3, 5), Check.NONE);
    Check.due("told(0)", x.told(0), 6);
  }

  /** By the document's words, not by the class: which drafts have POINTS that must be different. */
  private static boolean isRefused(int kind, int[] points) {
    for (int i = 0; i < points.length; i++) {
      for (int j = 0; j < i; j++) {
        boolean mustDiffer = kind == Check.COLLINEAR || kind == Check.CIRCLE || kind == Check.MIDDLE || i / 2 == j / 2;
        if (mustDiffer && points[i] == points[j]) return true;
      }
    }
    return false;
  }

  private static void different() {
    Check.sentence(TERMS, "the POINTS of a line, of a distance, and of kinds 0, 3, 5 are different ones");
    for (int kind = 0; kind < 7; kind++) {
      int size = Check.SIZES[kind];
      for (int i = 0; i < size; i++) {
        for (int j = 0; j < size; j++) {
          int[] points = new int[size];
          for (int k = 0; k < size; k++) points[k] = k % 7;
          points[j] = points[i];
          boolean refused = isRefused(kind, points);
          String what = "kind " + kind + ", places " + i + " and " + j;
          Counted x = Counted.figure(0, 0, 1, 0, 0, 2, 5, 1, 7, 13, -3, 4, 20, -9);
          Check.due("isTrue of " + what, x.isTrue(kind, points) == Check.NONE, refused);
          Check.due("follows of " + what, x.follows(kind, points) == Check.NONE, refused);
          Check.due("needs of " + what, x.needs(kind, points) == Check.NONE, refused);
          Check.due("fact of " + what, x.fact(kind, points) == Check.NONE, refused);
        }
      }
    }
  }

  private static void sameLine() {
    Check.sentence(TERMS, "ab and cd have the same direction (also when they are the same line)");
    Counted x = Counted.figure(0, 0, 1, 0, 3, 0, 4, 0, 0, 1, 1, 1, 5, 2);
    Check.due("two lines", x.isTrue(Check.PARALLEL, 0, 1, 4, 5), 1);
    Check.due("a line and itself", x.isTrue(Check.PARALLEL, 0, 1, 0, 1), 1);
    Check.due("a line and itself backwards", x.isTrue(Check.PARALLEL, 0, 1, 1, 0), 1);
    Check.due("one line by three POINTS", x.isTrue(Check.PARALLEL, 0, 1, 1, 2), 1);
    Check.due("one line by four POINTS", x.isTrue(Check.PARALLEL, 0, 1, 3, 2), 1);
    Check.due("lines that meet", x.isTrue(Check.PARALLEL, 0, 1, 0, 6), 0);
  }

  private static void onCircle() {
    Check.sentence(TERMS, "CIRCLE a b c d: they are on a circle");
    Counted x = Counted.figure(-1000, 0, 1000, 0, 0, 1000, 600, 800, 1, 1000, 0, 0, 2, 0);
    Check.due("four on it", x.isTrue(Check.CIRCLE, 0, 1, 2, 3), 1);
    Check.due("four on it, in another order", x.isTrue(Check.CIRCLE, 3, 0, 2, 1), 1);
    Check.due("the last beside it by one", x.isTrue(Check.CIRCLE, 0, 1, 2, 4), 0);
    Check.due("the first beside it by one", x.isTrue(Check.CIRCLE, 4, 1, 2, 3), 0);
    Check.due("three on a line, one not", x.isTrue(Check.CIRCLE, 0, 5, 1, 2), 0);
    Check.due("four on a line", x.isTrue(Check.CIRCLE, 0, 5, 6, 1), 0);
  }

  private static final String[] KINDS = {
    "0 COLLINEAR a b c", "1 PARALLEL a b, c d", "2 PERPENDICULAR a b, c d", "3 CIRCLE a b c d: they are on a circle",
    "4 EQUAL a b, c d: |ab| = |cd|", "5 MIDDLE m a b: m is the middle of a and b",
    "6 ANGLE a b, c d, e f, g h: the turn that takes the direction of ab to that of cd takes that of ef to that of gh"};

  /** FACTS of all kinds are TRUE in both; in the second there are four POINTS on a line. */
  private static final int[][] FIGURES = {
    {0, 0, 4, 0, 2, 0, 2, 3, 2, -3, 0, 3, 4, 3}, {5, 0, -5, 0, 0, 0, 3, 4, -4, 3, 0, -5, 1, 0}};

  /** All FACTS of a kind; of kind 6 those with 0 1 as their first line, and of other lines the lower POINT first. */
  private static void kind(int kind, int[] places) {
    PlainModel model = new PlainModel();
    for (int i = 0; i < places.length; i += 2) model.point(places[i], places[i + 1]);
    int[] points = new int[Check.SIZES[kind]];
    Counted x = Counted.figure(places);
    int[] seen = new int[2];
    boolean isLast = false;
    while (!isLast) {
      boolean isLowFirst = kind != Check.ANGLE
        || points[0] == 0 && points[1] == 1 && points[2] < points[3] && points[4] < points[5] && points[6] < points[7];
      if (isLowFirst && !isRefused(kind, points)) {
        if (x.calls() > Counted.MOST_CALLS - 9) x = Counted.figure(places);
        int want = model.isTrueFact(kind, points) ? 1 : 0;
        seen[want]++;
        Check.due(java.util.Arrays.toString(points), x.isTrue(kind, points), want);
      }
      isLast = !next(points, kind == Check.ANGLE ? 2 : 0);
      if (kind == Check.ANGLE) points[1] = 1;
    }
    Check.due("some are TRUE, some are not", seen[0] > 0 && seen[1] > 0, true);
  }

  /** Counts on in the places from one on; whether there was a next. */
  private static boolean next(int[] points, int from) {
    for (int i = points.length - 1; i >= from; i--) {
      points[i] = (points[i] + 1) % 7;
      if (points[i] != 0) return true;
    }
    return false;
  }

  private static void kinds() {
    for (int kind = 0; kind < 7; kind++) {
      Check.sentence(TERMS, KINDS[kind]);
      for (int[] places : FIGURES) kind(kind, places);
    }
  }

  /** Twice the middle, twice a turn: these are TRUE of whole numbers only when nothing is rounded. */
  private static void exactly() {
    Check.sentence(TERMS, "A FACT is TRUE when it is so in THE FIGURE, exactly");
    Counted x = Counted.figure(-1000, -1000, 1000, 999, 999, 998, 998, 997, 999, -1000, 1000, 1000, 1, 1);
    Check.due("COLLINEAR but for one unit of area", x.isTrue(Check.COLLINEAR, 0, 1, 2), 0);
    Check.due("COLLINEAR", x.isTrue(Check.COLLINEAR, 0, 5, 6), 1);
    Check.due("PARALLEL but for one unit", x.isTrue(Check.PARALLEL, 0, 1, 0, 2), 0);
    Check.due("PARALLEL", x.isTrue(Check.PARALLEL, 1, 2, 5, 6), 1);
    Check.due("ANGLE, nearly 0 both", x.isTrue(Check.ANGLE, 0, 1, 0, 2, 0, 2, 0, 3), 0);
    Check.due("ANGLE, nearly 0 there and back", x.isTrue(Check.ANGLE, 0, 1, 0, 2, 0, 2, 0, 1), 0);
    Check.due("ANGLE", x.isTrue(Check.ANGLE, 0, 1, 0, 2, 1, 0, 2, 0), 1);
    Check.due("EQUAL, nearly", x.isTrue(Check.EQUAL, 0, 4, 0, 1), 0);
    Counted y = Counted.figure(-1000, -1000, 1000, 999, 999, -1000, -999, 999, 999, -999, 0, 0, 0, -1);
    Check.due("PERPENDICULAR but for one unit", y.isTrue(Check.PERPENDICULAR, 0, 1, 2, 3), 0);
    Check.due("PERPENDICULAR but for less than one in a thousand", y.isTrue(Check.PERPENDICULAR, 0, 1, 3, 4), 0);
    Counted halves = Counted.figure(0, 0, 3, 0, 1, 0, 2, 0, -3, 0, -1, 0, -2, 0);
    Check.due("MIDDLE of an odd distance, the lower", halves.isTrue(Check.MIDDLE, 2, 0, 1), 0);
    Check.due("MIDDLE of an odd distance, the upper", halves.isTrue(Check.MIDDLE, 3, 0, 1), 0);
    Check.due("MIDDLE of an odd distance below 0, the upper", halves.isTrue(Check.MIDDLE, 5, 0, 4), 0);
    Check.due("MIDDLE of an odd distance below 0, the lower", halves.isTrue(Check.MIDDLE, 6, 0, 4), 0);
    Check.due("MIDDLE", halves.isTrue(Check.MIDDLE, 0, 1, 4), 1);
    Counted high = Counted.figure(0, 0, 0, 3, 0, 1, 0, 2, 0, -3, 2, 0, 2, 4);
    Check.due("MIDDLE of an odd height, the lower", high.isTrue(Check.MIDDLE, 2, 0, 1), 0);
    Check.due("MIDDLE of an odd height, the upper", high.isTrue(Check.MIDDLE, 3, 0, 1), 0);
    Check.due("MIDDLE in x alone", high.isTrue(Check.MIDDLE, 3, 5, 1), 0);
    Check.due("MIDDLE in y alone", high.isTrue(Check.MIDDLE, 3, 5, 6), 0);
    Check.due("MIDDLE", high.isTrue(Check.MIDDLE, 0, 4, 1), 1);
  }

  /** Places that are multiples of 256: what is not 0 here is 0 in the low 32 bits, or in the low 16. */
  private static void wrapAround() {
    Check.sentence(TERMS, "A FACT is TRUE when it is so in THE FIGURE, exactly");
    Counted x = Counted.figure(0, 0, 256, 0, 0, 256, 512, 512, 256, 256, 768, 0, 512, 256);
    Check.due("no CIRCLE", x.isTrue(Check.CIRCLE, 0, 1, 2, 3), 0);
    Check.due("CIRCLE", x.isTrue(Check.CIRCLE, 0, 1, 2, 4), 1);
    Check.due("no ANGLE", x.isTrue(Check.ANGLE, 0, 1, 0, 4, 0, 1, 0, 6), 0);
    Check.due("ANGLE", x.isTrue(Check.ANGLE, 0, 1, 0, 4, 0, 4, 0, 2), 1);
    Check.due("not COLLINEAR", x.isTrue(Check.COLLINEAR, 0, 1, 6), 0);
    Check.due("not PARALLEL", x.isTrue(Check.PARALLEL, 0, 1, 2, 3), 0);
    Check.due("not PERPENDICULAR", x.isTrue(Check.PERPENDICULAR, 0, 1, 2, 3), 0);
    Check.due("not EQUAL", x.isTrue(Check.EQUAL, 0, 1, 0, 5), 0);
    Check.due("no LINE by what is not so", x.line(0, 1), 3);
    Check.due("a CIRCLE that is told", x.fact(Check.CIRCLE, 0, 1, 2, 3), Check.FALSE);
    Check.due("an ANGLE that is told", x.fact(Check.ANGLE, 0, 1, 0, 4, 0, 1, 0, 6), Check.FALSE);
    Check.due("none was taken", x.told(1), 0);
  }

  private static void halfTurns() {
    Check.sentence(TERMS, "(directions modulo half a turn)");
    Counted x = Counted.figure(0, 0, 3, 0, 2, 2, 0, 3, -2, 2, -3, 0);
    Check.due("an eighth and an eighth", x.isTrue(Check.ANGLE, 0, 1, 0, 2, 0, 2, 0, 3), 1);
    Check.due("an eighth and an eighth, lines named backwards", x.isTrue(Check.ANGLE, 1, 0, 0, 2, 0, 2, 3, 0), 1);
    Check.due("an eighth, and an eighth over the half turn", x.isTrue(Check.ANGLE, 0, 1, 0, 2, 0, 4, 0, 5), 1);
    Check.due("an eighth, and three eighths the other way", x.isTrue(Check.ANGLE, 0, 1, 0, 2, 0, 4, 0, 1), 1);
    Check.due("an eighth, and an eighth the other way", x.isTrue(Check.ANGLE, 0, 1, 0, 2, 0, 2, 0, 1), 0);
    Check.due("a quarter, and a quarter the other way", x.isTrue(Check.ANGLE, 0, 1, 0, 3, 0, 3, 0, 1), 1);
    Check.due("nothing, and half a turn", x.isTrue(Check.ANGLE, 0, 1, 0, 1, 0, 1, 0, 5), 1);
    Check.due("nothing, and a quarter", x.isTrue(Check.ANGLE, 0, 1, 0, 1, 0, 1, 0, 3), 0);
    Check.due("a quarter, and nothing", x.isTrue(Check.ANGLE, 0, 1, 0, 3, 0, 1, 0, 5), 0);
  }

  private static void hypotheses() {
    Check.sentence(TERMS, "HYPOTHESES, at most 30, are TRUE FACTS that were told");
    Counted x = Counted.figure(0, 0, 1, 0, 2, 0, 0, 1);
    for (int i = 0; i < 30; i++) {
      Check.due("told(1)", x.told(1), i);
      Check.due("one that is not TRUE", x.fact(Check.COLLINEAR, 0, 1, 3), Check.FALSE);
      Check.due("HYPOTHESIS " + i, x.fact(Check.COLLINEAR, 0, 1, 2), i);
    }
    Check.due("a 31st", x.fact(Check.COLLINEAR, 0, 1, 2), Check.NONE);
    Check.due("told(1) then", x.told(1), 30);
    Check.due("told(2) then", x.told(2), 30);

    Check.sentence(TERMS, "each is ON or OFF");
    Check.due("the first OFF", x.turn(0, false), true);
    Check.due("told(2)", x.told(2), 29);
    Check.due("the last OFF", x.turn(29, false), true);
    Check.due("told(2)", x.told(2), 28);
    Check.due("the first ON", x.turn(0, true), true);
    Check.due("told(2)", x.told(2), 29);
    Check.due("told(1)", x.told(1), 30);
  }

  public static void main(String[] args) {
    points();
    coordinates();
    noTwoTheSame();
    different();
    sameLine();
    onCircle();
    kinds();
    exactly();
    wrapAround();
    halfTurns();
    hypotheses();
    Check.end();
  }
}
