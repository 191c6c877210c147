/** What the tests share: counting wrong answers, and figures and FACTS in one line. */
final class Check {
  static final int COLLINEAR = 0;
  static final int PARALLEL = 1;
  static final int PERPENDICULAR = 2;
  static final int CIRCLE = 3;
  static final int EQUAL = 4;
  static final int MIDDLE = 5;
  static final int ANGLE = 6;

  private static int asked = 0;
  private static int wrong = 0;

  private Check() {
  }

  static void due(String what, long got, long want) {
    asked++;
    if (got != want) {
      wrong++;
      System.out.println(what + " answered " + got + ", due is " + want);
    }
  }

  static void end() {
    System.out.println(asked + " answers, " + wrong + " not as due");
    if (wrong != 0) System.exit(1);
  }

  /** x0, y0, x1, y1, .. */
  static AngleChains figure(int... places) {
    AngleChains chains = new AngleChains();
    for (int i = 0; i + 1 < places.length; i += 2) due("point", chains.point(places[i], places[i + 1]), i / 2);
    return chains;
  }

  static void draft(AngleChains chains, int... points) {
    for (int point : points) chains.of(point);
  }

  static int isTrue(AngleChains chains, int kind, int... points) {
    draft(chains, points);
    return chains.isTrue(kind);
  }

  static int fact(AngleChains chains, int kind, int... points) {
    draft(chains, points);
    return chains.fact(kind);
  }

  static int follows(AngleChains chains, int kind, int... points) {
    draft(chains, points);
    return chains.follows(kind);
  }

  static int needs(AngleChains chains, int kind, int... points) {
    draft(chains, points);
    return chains.needs(kind);
  }
}
