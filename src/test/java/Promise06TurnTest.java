/** Promise 6: turn. */
public final class Promise06TurnTest {
  private static final String PROMISE = "Promise 6";

  /** Thirty HYPOTHESES: all but the last say the same, the last is seen by a LINE of its own. */
  private static Counted withThirty() {
    Counted x = Counted.figure(0, 0, 1, 0, 3, 0, 7, 0, 12, 0, 20, 0, 0, 5);
    for (int i = 0; i < 29; i++) Check.due("fact", x.fact(Check.COLLINEAR, 0, 1, 2), i);
    Check.due("fact", x.fact(Check.COLLINEAR, 3, 4, 5), 29);
    return x;
  }

  private static void onOrOff() {
    Check.sentence(PROMISE, "A HYPOTHESIS is ON, or OFF");
    Counted x = Counted.figure(0, 0, 1, 0, 3, 0, 7, 0);
    x.fact(Check.COLLINEAR, 0, 1, 2);
    x.fact(Check.COLLINEAR, 1, 2, 3);
    Check.due("both ON", x.line(0, 1), 15);
    Check.due("0 OFF", x.turn(0, false), true);
    Check.due("without 0", x.line(1, 2), 14);
    Check.due("told(2)", x.told(2), 1);
    Check.due("0 OFF once more", x.turn(0, false), true);
    Check.due("told(2)", x.told(2), 1);
    Check.due("without 0", x.line(1, 2), 14);
    Check.due("1 OFF", x.turn(1, false), true);
    Check.due("without both", x.line(1, 2), 6);
    Check.due("told(2)", x.told(2), 0);
    Check.due("0 ON", x.turn(0, true), true);
    Check.due("without 1", x.line(1, 2), 7);
    Check.due("0 ON once more", x.turn(0, true), true);
    Check.due("told(2)", x.told(2), 1);
    Check.due("1 ON", x.turn(1, true), true);
    Check.due("both ON", x.line(0, 1), 15);
    Check.due("told(2)", x.told(2), 2);
    Check.due("told(1)", x.told(1), 2);
  }

  private static void noneSuch() {
    Check.sentence(PROMISE, "false when there is none such");
    Counted x = Counted.figure(0, 0, 1, 0, 3, 0, 7, 0);
    for (int count = 0; count <= 4; count++) {
      Check.due("turn(-1) of " + count, x.turn(-1, false), false);
      Check.due("turn(" + count + ") of " + count, x.turn(count, false), false);
      Check.due("turn(" + count + ", true) of " + count, x.turn(count, true), false);
      Check.due("turn(29) of " + count, x.turn(29, true), false);
      if (count > 0) Check.due("turn(" + (count - 1) + ") of " + count, x.turn(count - 1, true), true);
      Check.due("told(2)", x.told(2), count);
      Check.due("fact", x.fact(Check.COLLINEAR, 0, 1, 2), count);
      Check.due("a new one is ON, whatever was refused", x.told(2), count + 1);
    }
  }

  private static void ofThirty() {
    Check.sentence(PROMISE, "false when there is none such");
    Counted x = withThirty();
    int[] beyond = {30, 31, 32, 33, 61, 62, 63, 64, 128, 256, -1, -2, -3, -31, -32, -33, -64};
    for (int number : beyond) {
      Check.due("turn(" + number + ", false)", x.turn(number, false), false);
      Check.due("told(2)", x.told(2), 30);
    }
    for (int odd : Check.ODD) Check.due("turn(" + odd + ", false)", x.turn(odd, false), false);
    Check.due("told(2)", x.told(2), 30);
    Check.due("line of the last", x.line(3, 4), 56);
    Check.due("turn(29, false)", x.turn(29, false), true);
    Check.due("line without the last", x.line(3, 4), 24);
    Check.due("told(2)", x.told(2), 29);
    Check.due("turn(0, false)", x.turn(0, false), true);
    Check.due("told(2)", x.told(2), 28);
    for (int number : beyond) Check.due("turn(" + number + ", true)", x.turn(number, true), false);
    for (int odd : Check.ODD) Check.due("turn(" + odd + ", true)", x.turn(odd, true), false);
    Check.due("told(2)", x.told(2), 28);
    Check.due("line without the last", x.line(3, 4), 24);
    Check.due("told(1)", x.told(1), 30);
  }

  public static void main(String[] args) {
    onOrOff();
    noneSuch();
    ofThirty();
    Check.end();
  }
}
