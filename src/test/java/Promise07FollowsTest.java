/** Promise 7: follows. */
public final class Promise07FollowsTest {
  private static final String PROMISE = "Promise 7";

  private static Counted kite() {
    return Counted.figure(0, 0, 4, 0, 2, 1, 2, -3, 2, 0);
  }

  private static void fromThoseOn() {
    Check.sentence(PROMISE, "1 when it FOLLOWS from the HYPOTHESES that are ON, 0 when it does not");
    Counted x = kite();
    Check.due("from none", x.follows(Check.PERPENDICULAR, 2, 3, 0, 1), 0);
    x.fact(Check.EQUAL, 2, 0, 2, 1);
    Check.due("from one of two", x.follows(Check.PERPENDICULAR, 2, 3, 0, 1), 0);
    x.fact(Check.EQUAL, 3, 0, 3, 1);
    Check.due("from both", x.follows(Check.PERPENDICULAR, 2, 3, 0, 1), 1);
    x.turn(0, false);
    Check.due("the first OFF", x.follows(Check.PERPENDICULAR, 2, 3, 0, 1), 0);
    x.turn(0, true);
    x.turn(1, false);
    Check.due("the last OFF", x.follows(Check.PERPENDICULAR, 2, 3, 0, 1), 0);
    x.turn(1, true);
    Check.due("both ON again", x.follows(Check.PERPENDICULAR, 2, 3, 0, 1), 1);
    Check.due("a HYPOTHESIS itself", x.follows(Check.EQUAL, 1, 3, 0, 3), 1);
    x.turn(1, false);
    Check.due("a HYPOTHESIS itself, OFF", x.follows(Check.EQUAL, 1, 3, 0, 3), 0);
    Check.due("TRUE alone is not enough", x.follows(Check.MIDDLE, 4, 0, 1), 0);
  }

  private static void fromNone() {
    Check.sentence(PROMISE, "1 when it FOLLOWS from the HYPOTHESES that are ON");
    Counted x = kite();
    Check.due("a line and itself", x.follows(Check.PARALLEL, 0, 1, 1, 0), 1);
    Check.due("a distance and itself", x.follows(Check.EQUAL, 0, 1, 1, 0), 1);
    Check.due("a turn and itself", x.follows(Check.ANGLE, 0, 1, 2, 3, 1, 0, 3, 2), 1);
    Check.due("no turn and no turn", x.follows(Check.ANGLE, 0, 1, 0, 1, 2, 3, 2, 3), 1);
    Check.due("a line and itself by another POINT", x.follows(Check.PARALLEL, 0, 4, 4, 1), 0);
  }

  private static void noneAsIsTrue() {
    Check.sentence(PROMISE, "NONE as isTrue()");
    Counted x = kite();
    x.fact(Check.MIDDLE, 4, 0, 1);
    Check.due("kind -1", x.follows(-1, 4, 0, 1), Check.NONE);
    Check.due("kind 0", x.follows(0, 4, 0, 1), 1);
    Check.due("kind 6", x.follows(6, 4, 0, 1, 4, 0, 1, 4, 1), 1);
    Check.due("kind 7", x.follows(7, 4, 0, 1), Check.NONE);
    Check.due("of none", x.follows(Check.MIDDLE), Check.NONE);
    Check.due("of two", x.follows(Check.MIDDLE, 4, 0), Check.NONE);
    Check.due("of three", x.follows(Check.MIDDLE, 4, 0, 1), 1);
    Check.due("of four", x.follows(Check.MIDDLE, 4, 0, 1, 2), Check.NONE);
    Check.due("ANGLE of seven", x.follows(Check.ANGLE, 4, 0, 1, 4, 0, 1, 4), Check.NONE);
    Check.due("the same", x.follows(Check.MIDDLE, 4, 0, 0), Check.NONE);
    Check.due("the same in a line", x.follows(Check.PARALLEL, 4, 0, 1, 1), Check.NONE);
    for (int odd : Check.ODD) Check.due("kind " + odd, x.follows(odd, 4, 0, 1), Check.NONE);
  }

  private static void notTrue() {
    Check.sentence(PROMISE, "FALSE when it is not TRUE");
    int[][] facts = {
      {0, 1, 2}, {0, 1, 2, 3}, {0, 2, 2, 1}, {0, 1, 2, 3}, {0, 2, 0, 3}, {4, 2, 3}, {0, 1, 0, 2, 0, 2, 0, 1}};
    Counted x = kite();
    for (int kind = 0; kind < 7; kind++) Check.due("from none, kind " + kind, x.follows(kind, facts[kind]), Check.FALSE);
    x.fact(Check.EQUAL, 2, 0, 2, 1);
    x.fact(Check.EQUAL, 3, 0, 3, 1);
    for (int kind = 0; kind < 7; kind++) Check.due("from two, kind " + kind, x.follows(kind, facts[kind]), Check.FALSE);
    Check.due("a line is no CIRCLE", Counted.figure(0, 0, 1, 0, 2, 0, 3, 0).follows(Check.CIRCLE, 0, 1, 2, 3), Check.FALSE);
  }

  private static void changesNothing() {
    Check.sentence(PROMISE, "THE DRAFT as a FACT of a kind: 1 when it FOLLOWS");
    Counted x = kite();
    x.fact(Check.EQUAL, 2, 0, 2, 1);
    x.fact(Check.EQUAL, 3, 0, 3, 1);
    x.fact(Check.MIDDLE, 4, 0, 1);
    x.turn(2, false);
    x.needs(Check.EQUAL, 2, 1, 2, 0);
    String before = x.state();
    Check.due("1", x.follows(Check.PERPENDICULAR, 2, 3, 0, 1), 1);
    Check.due("0", x.follows(Check.MIDDLE, 4, 0, 1), 0);
    Check.due("FALSE", x.follows(Check.COLLINEAR, 0, 1, 2), Check.FALSE);
    Check.due("NONE", x.follows(Check.COLLINEAR, 0, 1, 1), Check.NONE);
    Check.due("all is as it was, need() too", x.state(), before);
  }

  public static void main(String[] args) {
    fromThoseOn();
    fromNone();
    noneAsIsTrue();
    notTrue();
    changesNothing();
    Check.end();
  }
}
