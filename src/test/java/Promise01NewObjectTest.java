/** Promise 1: a new object. */
public final class Promise01NewObjectTest {
  private static final String PROMISE = "Promise 1";

  private static void noPoints() {
    Check.sentence(PROMISE, "No POINTS");
    Counted x = new Counted();
    Check.due("told(0)", x.told(0), 0);
    Check.due("told(4)", x.told(4), 0);
    Check.due("told(5)", x.told(5), 0);
    Check.due("told(6)", x.told(6), 0);
    Check.due("told(7)", x.told(7), 0);
    Check.due("of(0)", x.of(0), Check.NONE);
    Check.due("of(-1)", x.of(-1), Check.NONE);
    Check.due("line(0, 1)", x.line(0, 1), 0);
    Check.due("line(0, 0)", x.line(0, 0), 0);
    Check.due("circle(0, 1, 2)", x.circle(0, 1, 2), 0);
    Check.due("circle(0, 0, 0)", x.circle(0, 0, 0), 0);
    Check.due("length(0, 1)", x.length(0, 1), Check.NONE);
    Check.due("length(0, 0)", x.length(0, 0), Check.NONE);
    Check.due("the first point", x.point(0, 0), 0);
  }

  private static void noHypotheses() {
    Check.sentence(PROMISE, "no HYPOTHESES");
    Counted x = new Counted();
    Check.due("told(1)", x.told(1), 0);
    Check.due("told(2)", x.told(2), 0);
    Check.due("turn(0, true)", x.turn(0, true), false);
    Check.due("turn(0, false)", x.turn(0, false), false);
    Check.due("turn(-1, true)", x.turn(-1, true), false);
    Check.due("need(0)", x.need(0), Check.NONE);
    Check.due("need(-1)", x.need(-1), Check.NONE);
    Check.due("need(1)", x.need(1), Check.NONE);
  }

  private static void emptyDraft() {
    Check.sentence(PROMISE, "THE DRAFT empty");
    Counted x = new Counted();
    Check.due("told(3)", x.told(3), 0);
    for (int kind = -1; kind <= 7; kind++) {
      Check.due("isTrue(" + kind + ")", x.isTrue(kind), Check.NONE);
      Check.due("fact(" + kind + ")", x.fact(kind), Check.NONE);
      Check.due("follows(" + kind + ")", x.follows(kind), Check.NONE);
      Check.due("needs(" + kind + ")", x.needs(kind), Check.NONE);
    }
    x.point(3, 3);
    Check.due("the first of()", x.of(0), 1);
  }

  private static void apart() {
    Check.sentence(PROMISE, "No POINTS, no HYPOTHESES, THE DRAFT empty");
    Counted old = Counted.figure(0, 0, 4, 0, 2, 0, 1, 5);
    old.fact(Check.MIDDLE, 2, 0, 1);
    old.needs(Check.EQUAL, 2, 0, 2, 1);
    old.of(3);
    String before = old.state();
    Counted made = new Counted();
    for (int what = 0; what < 8; what++) Check.due("another's told(" + what + ")", made.told(what), 0);
    Check.due("another's need(0)", made.need(0), Check.NONE);
    made.point(7, 7);
    made.point(8, 7);
    made.of(1);
    made.isTrue(3);
    made.line(0, 1);
    Check.due("the old one", old.state(), before);
  }

  public static void main(String[] args) {
    noPoints();
    noHypotheses();
    emptyDraft();
    apart();
    Check.end();
  }
}
