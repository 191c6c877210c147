/** Promise 5: fact. */
public final class Promise05FactTest {
  private static final String PROMISE = "Promise 5";

  private static Counted square() {
    return Counted.figure(0, 0, 4, 0, 4, 4, 0, 4, 2, 2, 3, 9);
  }

  private static void becomesOne() {
    Check.sentence(PROMISE, "THE DRAFT as a FACT of a kind becomes a HYPOTHESIS, ON: its number");
    int[][] facts = {
      {0, 4, 2}, {0, 1, 2, 3}, {0, 1, 1, 2}, {0, 1, 2, 3}, {0, 1, 1, 2}, {4, 0, 2}, {0, 1, 0, 2, 0, 2, 0, 3}};
    Counted all = square();
    for (int kind = 0; kind < 7; kind++) {
      Check.due("kind " + kind, all.fact(kind, facts[kind]), kind);
      Check.due("told(1)", all.told(1), kind + 1);
      Check.due("told(2)", all.told(2), kind + 1);
      Counted one = square();
      Check.due("before, kind " + kind, one.follows(kind, facts[kind]), 0);
      Check.due("alone, kind " + kind, one.fact(kind, facts[kind]), 0);
      Check.due("it FOLLOWS, kind " + kind, one.follows(kind, facts[kind]), 1);
      Check.due("it is needed, kind " + kind, one.needs(kind, facts[kind]), 1);
      Check.due("it is the one, kind " + kind, one.need(0), 0);
      one.turn(0, false);
      Check.due("OFF, kind " + kind, one.follows(kind, facts[kind]), 0);
    }
    Check.due("one that is there already", all.fact(Check.COLLINEAR, 0, 4, 2), 7);
    Check.due("told(1)", all.told(1), 8);
    all.turn(7, false);
    Check.due("a new one is ON when others are OFF", all.fact(Check.COLLINEAR, 1, 4, 3), 8);
    Check.due("told(2)", all.told(2), 8);
  }

  private static void noneAsIsTrue() {
    Check.sentence(PROMISE, "NONE as isTrue()");
    Counted x = square();
    Check.due("kind -1", x.fact(-1, 0, 4, 2), Check.NONE);
    Check.due("kind 7", x.fact(7, 0, 4, 2), Check.NONE);
    Check.due("of none", x.fact(Check.COLLINEAR), Check.NONE);
    Check.due("of two", x.fact(Check.COLLINEAR, 0, 4), Check.NONE);
    Check.due("of four", x.fact(Check.COLLINEAR, 0, 4, 2, 1), Check.NONE);
    Check.due("CIRCLE of three", x.fact(Check.CIRCLE, 0, 1, 2), Check.NONE);
    Check.due("CIRCLE of five", x.fact(Check.CIRCLE, 0, 1, 2, 3, 4), Check.NONE);
    Check.due("ANGLE of seven", x.fact(Check.ANGLE, 0, 1, 0, 2, 0, 2, 0), Check.NONE);
    Check.due("the same", x.fact(Check.COLLINEAR, 0, 4, 0), Check.NONE);
    Check.due("the same in a line", x.fact(Check.EQUAL, 0, 0, 1, 1), Check.NONE);
    for (int odd : Check.ODD) Check.due("kind " + odd, x.fact(odd, 0, 4, 2), Check.NONE);
    Check.due("told(1)", x.told(1), 0);
    Check.due("told(4)", x.told(4), 15);
    Check.due("points may still come", x.point(9, 9), 6);
    Check.due("the first number", x.fact(Check.COLLINEAR, 0, 4, 2), 0);
  }

  private static void thirty() {
    Check.sentence(PROMISE, "and when there are 30");
    Counted x = square();
    for (int i = 0; i < 29; i++) Check.due("number " + i, x.fact(Check.COLLINEAR, 0, 4, 2), i);
    Check.due("the 30th, not TRUE", x.fact(Check.COLLINEAR, 0, 4, 5), Check.FALSE);
    Check.due("told(1)", x.told(1), 29);
    Check.due("the 30th", x.fact(Check.EQUAL, 0, 1, 1, 2), 29);
    Check.due("told(1)", x.told(1), 30);
    Check.due("told(2)", x.told(2), 30);
    Check.due("the 30th counts", x.follows(Check.EQUAL, 1, 2, 1, 0), 1);
    Check.due("the 31st", x.fact(Check.EQUAL, 0, 1, 2, 3), Check.NONE);
    Check.due("the 31st, not TRUE", x.fact(Check.COLLINEAR, 0, 4, 5), Check.NONE);
    Check.due("the 31st does not count", x.follows(Check.EQUAL, 0, 1, 2, 3), 0);
    Check.due("the 30th still counts", x.follows(Check.EQUAL, 1, 2, 1, 0), 1);
    Check.due("the first still counts", x.follows(Check.COLLINEAR, 0, 4, 2), 1);
    for (int i = 0; i < 30; i++) x.turn(i, false);
    Check.due("told(2)", x.told(2), 0);
    Check.due("the 31st when all are OFF", x.fact(Check.EQUAL, 0, 1, 2, 3), Check.NONE);
    Check.due("told(1)", x.told(1), 30);
    Check.due("told(2)", x.told(2), 0);
  }

  private static void notTrue() {
    Check.sentence(PROMISE, "FALSE when it is not TRUE");
    int[][] facts = {
      {0, 4, 5}, {0, 1, 2, 5}, {0, 1, 1, 5}, {0, 1, 2, 5}, {0, 1, 1, 5}, {4, 0, 5}, {0, 1, 0, 2, 0, 2, 0, 5}};
    Counted x = square();
    for (int kind = 0; kind < 7; kind++) {
      Check.due("kind " + kind, x.fact(kind, facts[kind]), Check.FALSE);
      Check.due("told(1)", x.told(1), 0);
    }
    Check.due("nothing came of them", x.told(4) + 100 * x.told(5) + 1000 * x.told(6) + 100000 * x.told(7), 15015);
    Check.due("points may still come", x.point(9, 9), 6);
    Check.due("the first number", x.fact(Check.COLLINEAR, 0, 4, 2), 0);
    Check.due("not TRUE behind it", x.fact(Check.COLLINEAR, 0, 4, 5), Check.FALSE);
    Check.due("the next number", x.fact(Check.COLLINEAR, 1, 4, 3), 1);
  }

  public static void main(String[] args) {
    becomesOne();
    noneAsIsTrue();
    thirty();
    notTrue();
    Check.end();
  }
}
