/** Promise 2: point. */
public final class Promise02PointTest {
  private static final String PROMISE = "Promise 2";

  private static void number() {
    Check.sentence(PROMISE, "A POINT: its number");
    Counted x = new Counted();
    Check.due("the first", x.point(5, 5), 0);
    Check.due("told(4) of one", x.told(4), 0);
    Check.due("the second", x.point(-5, 5), 1);
    Check.due("told(4) of two", x.told(4), 1);
    Check.due("line of two", x.line(1, 0), 3);
    Check.due("one that is refused", x.point(1001, 0), Check.NONE);
    Check.due("the third, no number is left out", x.point(0, 0), 2);
    Check.due("told(6) of three", x.told(6), 3);
    Check.due("circle of three", x.circle(0, 1, 2), 7);
    Check.due("of", x.of(2), 1);
    Check.due("the fourth, with a draft", x.point(0, 9), 3);
    Check.due("told(3) stays", x.told(3), 1);
    Check.due("circle with the fourth", x.circle(0, 1, 3), 11);
    Check.due("line with the fourth", x.line(3, 2), 12);
    Check.due("length with the fourth", x.length(3, 2), 27);
  }

  private static void seven() {
    Check.sentence(PROMISE, "NONE when there are 7");
    Counted x = Counted.figure(0, 0, 1, 0, 0, 1, 1, 1, 2, 0);
    Check.due("the sixth", x.point(0, 2), 5);
    Check.due("the seventh", x.point(2, 2), 6);
    Check.due("the eighth", x.point(3, 3), Check.NONE);
    Check.due("the eighth again", x.point(-3, 3), Check.NONE);
    Check.due("told(0)", x.told(0), 7);
    Check.due("told(4)", x.told(4), 21);
    Check.due("of(7)", x.of(7), Check.NONE);
  }

  private static void coordinates() {
    Check.sentence(PROMISE, "a coordinate is none that it may be");
    int[] edges = {-1000, 1000};
    int[] beyond = {-1001, 1001};
    for (int i = 0; i < 2; i++) {
      Counted x = new Counted();
      Check.due("x beyond", x.point(beyond[i], edges[i]), Check.NONE);
      Check.due("y beyond", x.point(edges[i], beyond[i]), Check.NONE);
      Check.due("both beyond", x.point(beyond[i], beyond[i]), Check.NONE);
      Check.due("both beyond, either way", x.point(beyond[i], beyond[1 - i]), Check.NONE);
      Check.due("told(0)", x.told(0), 0);
      Check.due("both at the edge", x.point(edges[i], edges[i]), 0);
      Check.due("both at the edge, either way", x.point(edges[i], edges[1 - i]), 1);
      Check.due("x at the edge", x.point(edges[i], 0), 2);
      Check.due("y at the edge", x.point(0, edges[i]), 3);
    }
    Counted y = new Counted();
    for (int odd : Check.ODD) {
      if (odd < -1000 || odd > 1000) {
        Check.due("point(" + odd + ", 0)", y.point(odd, 0), Check.NONE);
        Check.due("point(0, " + odd + ")", y.point(0, odd), Check.NONE);
      }
    }
    Check.due("told(0)", y.told(0), 0);
  }

  private static void thereAlready() {
    Check.sentence(PROMISE, "there is one there already");
    Counted x = new Counted();
    for (int i = 0; i < 6; i++) {
      Check.due("point " + i, x.point(10 * i, -i), i);
      for (int j = 0; j <= i; j++) Check.due("the place of " + j + " of " + (i + 1), x.point(10 * j, -j), Check.NONE);
    }
    Check.due("beside one, in x", x.point(51, -5), 6);
    Counted y = Counted.figure(0, 0);
    Check.due("beside one, in x", y.point(1, 0), 1);
    Check.due("beside one, in y", y.point(0, 1), 2);
    Check.due("beside one, in x the other way", y.point(-1, 0), 3);
    Check.due("beside one, in y the other way", y.point(0, -1), 4);
    Check.due("beside one, in both", y.point(1, 1), 5);
  }

  private static void hypotheses() {
    Check.sentence(PROMISE, "or there are HYPOTHESES");
    Counted x = Counted.figure(0, 0, 1, 0, 2, 0);
    Check.due("a fact that is not TRUE", x.fact(Check.PERPENDICULAR, 0, 1, 1, 2), Check.FALSE);
    Check.due("a fact that is none", x.fact(Check.PERPENDICULAR, 0, 1, 1), Check.NONE);
    Check.due("none is there", x.point(5, 5), 3);
    Check.due("the first", x.fact(Check.COLLINEAR, 0, 1, 2), 0);
    Check.due("one is there", x.point(6, 6), Check.NONE);
    x.turn(0, false);
    Check.due("one is there, OFF", x.point(6, 6), Check.NONE);
    Check.due("told(2)", x.told(2), 0);
    x.turn(0, true);
    Check.due("one is there, ON again", x.point(6, 6), Check.NONE);
    Check.due("told(0)", x.told(0), 4);
    Check.due("of(4)", x.of(4), Check.NONE);
  }

  public static void main(String[] args) {
    number();
    seven();
    coordinates();
    thereAlready();
    hypotheses();
    Check.end();
  }
}
