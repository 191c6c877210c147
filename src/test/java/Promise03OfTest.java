/** Promise 3: of. */
public final class Promise03OfTest {
  private static final String PROMISE = "Promise 3";

  private static void behind() {
    Check.sentence(PROMISE, "The number of a POINT comes behind THE DRAFT");
    Counted x = Counted.figure(0, 0, 2, 0, 1, 0);
    Check.due("2 0 1 is a MIDDLE", x.isTrue(Check.MIDDLE, 2, 0, 1), 1);
    Check.due("0 2 1 is none", x.isTrue(Check.MIDDLE, 0, 2, 1), 0);
    Check.due("1 0 2 is none", x.isTrue(Check.MIDDLE, 1, 0, 2), 0);
    Counted y = Counted.figure(0, 0, 3, 0, 3, 3, 0, 3, -3, 3, 5, 1);
    Check.due("0 1, 0 2, 0 2, 0 3", y.isTrue(Check.ANGLE, 0, 1, 0, 2, 0, 2, 0, 3), 1);
    int[] turn = {0, 1, 0, 2, 0, 2, 0, 3};
    int[] others = {2, 5, 3, 5, 3, 5, 4, 5};
    for (int place = 0; place < 8; place++) {
      int[] changed = turn.clone();
      changed[place] = others[place];
      Check.due("another POINT at place " + place, y.isTrue(Check.ANGLE, changed), 0);
    }
  }

  private static void howMany() {
    Check.sentence(PROMISE, "Answers how many it has");
    Counted x = Counted.figure(4, 4);
    for (int i = 1; i <= 8; i++) {
      Check.due("of(0)", x.of(0), i);
      Check.due("told(3)", x.told(3), i);
    }
  }

  private static void noSuchPoint() {
    Check.sentence(PROMISE, "NONE when there is no such POINT");
    for (int size = 0; size <= 7; size++) {
      Counted x = new Counted();
      for (int i = 0; i < size; i++) x.point(i, i * i);
      Check.due("of(-1) of " + size, x.of(-1), Check.NONE);
      Check.due("of(" + size + ") of " + size, x.of(size), Check.NONE);
      Check.due("of(" + (size + 1) + ") of " + size, x.of(size + 1), Check.NONE);
      Check.due("of(8) of " + size, x.of(8), Check.NONE);
      for (int odd : Check.ODD) Check.due("of(" + odd + ") of " + size, x.of(odd), Check.NONE);
      Check.due("told(3) of " + size, x.told(3), 0);
      if (size > 0) {
        Check.due("of(0) of " + size, x.of(0), 1);
        Check.due("of(" + (size - 1) + ") of " + size, x.of(size - 1), 2);
        Check.due("of(" + size + ") with a draft", x.of(size), Check.NONE);
        Check.due("told(3) with a draft", x.told(3), 2);
      }
    }
  }

  private static void eight() {
    Check.sentence(PROMISE, "or it has 8");
    Counted x = Counted.figure(0, 0, 3, 0, 3, 3, 0, 3, 5, 1);
    x.draft(0, 1, 0, 2, 0, 2, 0);
    Check.due("told(3)", x.told(3), 7);
    Check.due("the eighth", x.of(3), 8);
    for (int point = 0; point < 5; point++) Check.due("a ninth, " + point, x.of(point), Check.NONE);
    Check.due("no such POINT, too", x.of(5), Check.NONE);
    Check.due("told(3) then", x.told(3), 8);
    Check.due("the eight are as they were", x.isTrue(Check.ANGLE), 1);
    Check.due("room again", x.of(4), 1);
  }

  public static void main(String[] args) {
    behind();
    howMany();
    noSuchPoint();
    eight();
    Check.end();
  }
}
