/** Promise 9: need. */
public final class Promise09NeedTest {
  private static final String PROMISE = "Promise 9";

  private static Counted three() {
    Counted x = Counted.figure(0, 0, 4, 0, 4, 3, 0, 3, 9, 9);
    x.fact(Check.EQUAL, 0, 1, 2, 3);
    x.fact(Check.PERPENDICULAR, 0, 1, 1, 2);
    x.fact(Check.PERPENDICULAR, 1, 2, 2, 3);
    x.fact(Check.EQUAL, 0, 3, 1, 2);
    x.fact(Check.PERPENDICULAR, 2, 3, 3, 0);
    return x;
  }

  private static void byNumbers() {
    Check.sentence(PROMISE, "The k-th HYPOTHESIS, by numbers, that was left");
    Counted x = three();
    Check.due("three are left", x.needs(Check.PERPENDICULAR, 3, 0, 0, 1), 3);
    Check.due("need(0)", x.need(0), 1);
    Check.due("need(1)", x.need(1), 2);
    Check.due("need(2)", x.need(2), 4);
    Check.due("need(2) again", x.need(2), 4);
    Check.due("need(0) again", x.need(0), 1);

    Check.sentence(PROMISE, "NONE when there is none such");
    Check.due("need(3)", x.need(3), Check.NONE);
    Check.due("need(4)", x.need(4), Check.NONE);
    Check.due("need(-1)", x.need(-1), Check.NONE);
    Check.due("need(29)", x.need(29), Check.NONE);
    for (int odd : Check.ODD) Check.due("need(" + odd + ")", x.need(odd), Check.NONE);
    Check.due("one is left", x.needs(Check.PERPENDICULAR, 3, 0, 2, 3), 1);
    Check.due("need(0)", x.need(0), 4);
    Check.due("need(1)", x.need(1), Check.NONE);
    Check.due("need(-1)", x.need(-1), Check.NONE);
  }

  private static void none() {
    Check.sentence(PROMISE, "NONE when there is none such");
    Counted fresh = three();
    Check.due("no needs() yet", fresh.need(0), Check.NONE);
    Check.due("no needs() yet", fresh.need(-1), Check.NONE);
    fresh.follows(Check.PERPENDICULAR, 3, 0, 2, 3);
    Check.due("follows() is no needs()", fresh.need(0), Check.NONE);
    fresh.needs(Check.PERPENDICULAR, 3, 0, 0, 4);
    Check.due("a needs() that is FALSE", fresh.need(0), Check.NONE);
    fresh.needs(Check.EQUAL, 3, 0, 0, 3);
    Check.due("a needs() that is 0", fresh.need(0), Check.NONE);
    Check.due("a needs() that is 0", fresh.need(-1), Check.NONE);
  }

  private static void latest() {
    Check.sentence(PROMISE, "that was left at the latest needs() that was 0 or more");
    Counted x = three();
    x.needs(Check.PERPENDICULAR, 3, 0, 0, 1);
    String left = "1 2 4 ";
    Check.due("three", x.left(), left);
    x.needs(Check.PERPENDICULAR, 3, 0, 0, 4);
    Check.due("behind FALSE", x.left(), left);
    x.needs(Check.PERPENDICULAR, 3, 0, 0, 0);
    Check.due("behind NONE", x.left(), left);
    x.turn(1, false);
    Check.due("one of them OFF", x.left(), left);
    x.turn(1, true);
    x.follows(Check.EQUAL, 0, 1, 2, 3);
    Check.due("behind follows()", x.left(), left);
    x.isTrue(Check.EQUAL, 0, 1, 2, 3);
    Check.due("behind isTrue()", x.left(), left);
    x.fact(Check.EQUAL, 0, 1, 2, 3);
    Check.due("behind fact()", x.left(), left);
    x.fact(Check.EQUAL, 0, 1, 2, 4);
    Check.due("behind a fact() that is refused", x.left(), left);
    Check.due("point", x.point(50, 50), Check.NONE);
    Check.due("behind point()", x.left(), left);
    x.line(0, 1);
    x.circle(0, 1, 2);
    x.length(0, 1);
    for (int what = -1; what < 9; what++) x.told(what);
    Check.due("behind the looks", x.left(), left);
    x.needs(Check.EQUAL, 0, 1, 2, 3);
    Check.due("a later one", x.left(), "0 ");
    x.needs(Check.CIRCLE, 0, 1, 2, 3);
    Check.due("a later one", x.left(), "1 4 ");
    x.needs(Check.EQUAL, 0, 2, 1, 3);
    Check.due("a later one that does not FOLLOW", x.left(), "");
    x.needs(Check.CIRCLE, 0, 1, 2, 3);
    Check.due("a later one", x.left(), "1 4 ");
    x.needs(Check.PARALLEL, 0, 1, 0, 1);
    Check.due("a later one that is 0", x.left(), "");
  }

  public static void main(String[] args) {
    byNumbers();
    none();
    latest();
    Check.end();
  }
}
