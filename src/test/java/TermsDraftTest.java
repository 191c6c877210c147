import java.util.function.ToIntFunction;

/** The part "Terms": THE DRAFT, which refusal is answered, what a refused call leaves as it was; and the 512 calls. */
public final class TermsDraftTest {
  private static final String TERMS = "Terms";
  private static final String[] TAKERS = {"isTrue", "fact", "follows", "needs"};

  /** 2 is the middle of 0 and 1, 3 is over it; three HYPOTHESES ON, one OFF, and two are left by needs(). */
  private static Counted rich() {
    Counted x = Counted.figure(0, 0, 4, 0, 2, 0, 2, 3, 2, -3, 0, 3, 4, 3);
    Check.due("fact", x.fact(Check.MIDDLE, 2, 0, 1), 0);
    Check.due("fact", x.fact(Check.EQUAL, 3, 0, 3, 1), 1);
    Check.due("fact", x.fact(Check.PARALLEL, 5, 6, 0, 1), 2);
    Check.due("fact", x.fact(Check.PERPENDICULAR, 5, 0, 0, 1), 3);
    Check.due("turn", x.turn(3, false), true);
    Check.due("needs", x.needs(Check.PERPENDICULAR, 2, 3, 0, 1), 2);
    return x;
  }

  private static Counted full() {
    Counted x = rich();
    for (int i = 4; i < 30; i++) Check.due("fact", x.fact(Check.COLLINEAR, 0, 1, 2), i);
    return x;
  }

  private static int take(Counted x, String taker, int kind) {
    switch (taker) {
      case "isTrue":
        return x.isTrue(kind);
      case "fact":
        return x.fact(kind);
      case "follows":
        return x.follows(kind);
      default:
        return x.needs(kind);
    }
  }

  private static void atMostEight() {
    Check.sentence(TERMS, "THE DRAFT are numbers of POINTS, at most 8");
    Counted x = rich();
    for (int i = 1; i <= 8; i++) {
      Check.due("number " + i, x.of(i % 2), i);
      Check.due("told(3)", x.told(3), i);
    }
    Check.due("a ninth", x.of(0), Check.NONE);
    Check.due("told(3) then", x.told(3), 8);
    Check.due("the eight are there", x.isTrue(Check.ANGLE), 1);
    Check.due("one POINT eight times", countOfOne(x), 8);
  }

  private static int countOfOne(Counted x) {
    int count = 0;
    for (int i = 0; i < 8; i++) count = x.of(6);
    x.isTrue(Check.ANGLE);
    return count;
  }

  /** What is behind the call is seen by the next draft alone: no number of the old one is in it. */
  private static void emptyBehind(Counted x, String what) {
    Check.due(what + ", told(3) behind it", x.told(3), 0);
    Check.due(what + ", the first behind it", x.of(0), 1);
    Check.due(what + ", the second behind it", x.of(1), 2);
    Check.due(what + ", the third behind it", x.of(2), 3);
    Check.due(what + ", COLLINEAR behind it", x.isTrue(Check.COLLINEAR), 1);
  }

  private static void answersAndEmpties(Counted x, String taker, int want, int kind, int... points) {
    x.draft(points);
    String what = taker + "(" + kind + ") of " + points.length;
    Check.due(what, take(x, taker, kind), want);
    emptyBehind(x, what + " that answers " + want);
  }

  private static void leavesItEmpty() {
    Check.sentence(TERMS, "A call that takes it leaves it empty, whatever it answers");
    for (String taker : TAKERS) {
      Counted x = rich();
      answersAndEmpties(x, taker, Check.NONE, -1, 6, 5, 4);
      answersAndEmpties(x, taker, Check.NONE, 7, 6, 5, 4, 3, 6, 5, 4, 3);
      answersAndEmpties(x, taker, Check.NONE, Check.COLLINEAR, 6, 5);
      answersAndEmpties(x, taker, Check.NONE, Check.COLLINEAR, 6, 5, 4, 3);
      answersAndEmpties(x, taker, Check.NONE, Check.COLLINEAR);
      answersAndEmpties(x, taker, Check.NONE, Check.COLLINEAR, 6, 5, 6);
      answersAndEmpties(x, taker, Check.NONE, Check.COLLINEAR, 6, 5, 6, 5, 6, 5, 6, 5);
    }
    Counted truth = rich();
    answersAndEmpties(truth, "isTrue", 1, Check.EQUAL, 6, 3, 5, 3);
    answersAndEmpties(truth, "isTrue", 0, Check.EQUAL, 6, 3, 5, 4);
    answersAndEmpties(truth, "follows", 1, Check.EQUAL, 3, 0, 1, 3);
    answersAndEmpties(truth, "follows", 0, Check.EQUAL, 6, 3, 5, 3);
    answersAndEmpties(truth, "follows", Check.FALSE, Check.EQUAL, 6, 3, 5, 4);
    answersAndEmpties(truth, "needs", 1, Check.EQUAL, 3, 0, 1, 3);
    answersAndEmpties(truth, "needs", 0, Check.EQUAL, 6, 3, 5, 3);
    answersAndEmpties(truth, "needs", 0, Check.EQUAL, 6, 3, 3, 6);
    answersAndEmpties(truth, "needs", Check.FALSE, Check.EQUAL, 6, 3, 5, 4);
    answersAndEmpties(truth, "fact", Check.FALSE, Check.EQUAL, 6, 3, 5, 4);
    answersAndEmpties(truth, "fact", 4, Check.EQUAL, 6, 3, 5, 3);
    answersAndEmpties(full(), "fact", Check.NONE, Check.EQUAL, 6, 3, 5, 3);
    answersAndEmpties(full(), "fact", Check.NONE, Check.EQUAL, 6, 3, 5, 4);
  }

  private static void othersLeaveIt() {
    Check.sentence(TERMS, "A call that takes it leaves it empty");
    Counted x = Counted.figure(0, 0, 4, 0, 2, 0);
    Check.due("of", x.of(2), 1);
    Check.due("point", x.point(2, 3), 3);
    Check.due("a point that is refused", x.point(2, 3), Check.NONE);
    Check.due("of", x.of(0), 2);
    x.line(0, 1);
    x.line(0, 9);
    x.circle(0, 1, 3);
    x.circle(0, 1, 2);
    x.length(0, 1);
    x.length(0, 0);
    x.need(0);
    x.turn(0, true);
    x.told(4);
    x.told(9);
    Check.due("an of() that is refused", x.of(4), Check.NONE);
    Check.due("calls that do not take it leave it", x.told(3), 2);
    Check.due("of", x.of(1), 3);
    Check.due("and it is MIDDLE 2 0 1", x.fact(Check.MIDDLE), 0);
    x.of(2);
    x.turn(0, false);
    x.turn(0, true);
    x.turn(1, true);
    Check.due("turn leaves it", x.told(3), 1);
  }

  private static void firstRefusal() {
    Check.sentence(TERMS, "Of several refusals the first told is answered");
    Counted x = rich();
    Check.due("fact, too few and not TRUE", x.fact(Check.COLLINEAR, 0, 3), Check.NONE);
    Check.due("fact, too many and not TRUE", x.fact(Check.COLLINEAR, 0, 1, 3, 4), Check.NONE);
    Check.due("fact, the same and not TRUE", x.fact(Check.PARALLEL, 0, 1, 3, 3), Check.NONE);
    Check.due("fact, no kind and not TRUE", x.fact(7, 0, 1, 3), Check.NONE);
    Check.due("fact, not TRUE", x.fact(Check.COLLINEAR, 0, 1, 3), Check.FALSE);
    Check.due("follows, the same and not TRUE", x.follows(Check.EQUAL, 0, 0, 1, 3), Check.NONE);
    Check.due("follows, not TRUE and not following", x.follows(Check.EQUAL, 0, 1, 1, 3), Check.FALSE);
    Check.due("needs, the same and not TRUE", x.needs(Check.EQUAL, 0, 0, 1, 3), Check.NONE);
    Check.due("needs, not TRUE and not following", x.needs(Check.EQUAL, 0, 1, 1, 3), Check.FALSE);
    Counted last = full();
    Check.due("fact, there are 30, and it is not TRUE", last.fact(Check.COLLINEAR, 0, 1, 3), Check.NONE);
    Check.due("fact, there are 30, and the same", last.fact(Check.COLLINEAR, 0, 1, 1), Check.NONE);
    Check.due("follows, there are 30, and it is not TRUE", last.follows(Check.COLLINEAR, 0, 1, 3), Check.FALSE);
    Check.due("needs, there are 30, and it is not TRUE", last.needs(Check.COLLINEAR, 0, 1, 3), Check.FALSE);
    Check.due("isTrue, there are 30", last.isTrue(Check.COLLINEAR, 0, 1, 3), 0);
  }

  /** The same object with the refused call and without it. */
  private static void changesNothing(String what, Counted with, Counted without, int want, ToIntFunction<Counted> call) {
    Check.due(what, call.applyAsInt(with), want);
    Check.due("what is seen behind " + what, with.state(), without.state());
    Check.due("turn behind " + what, with.turn(3, true), without.turn(3, true));
    Check.due("follows behind " + what, with.follows(Check.PERPENDICULAR, 5, 0, 5, 6), without.follows(Check.PERPENDICULAR, 5, 0, 5, 6));
    Check.due("what is seen behind turn behind " + what, with.state(), without.state());
  }

  private static void refusedInRich(String what, int want, ToIntFunction<Counted> call) {
    changesNothing(what, rich(), rich(), want, call);
  }

  private static Counted richWithDraft() {
    Counted x = rich();
    Check.due("of", x.of(5), 1);
    Check.due("of", x.of(0), 2);
    return x;
  }

  private static void refusedWithDraft(String what, int want, ToIntFunction<Counted> call) {
    Counted with = richWithDraft();
    Counted without = richWithDraft();
    Check.due(what, call.applyAsInt(with), want);
    Check.due("what is seen behind " + what, with.state(), without.state());
    Check.due("THE DRAFT behind " + what, with.of(0), 3);
    Check.due("THE DRAFT behind " + what, with.of(1), 4);
    Check.due("THE DRAFT 5 0 0 1 behind " + what, with.isTrue(Check.PERPENDICULAR), 1);
  }

  private static void refusedTakers() {
    for (String taker : TAKERS) {
      refusedInRich(taker + " of no kind", Check.NONE, x -> {
        x.draft(0, 1, 2);
        return take(x, taker, 7);
      });
      refusedInRich(taker + " of too few", Check.NONE, x -> {
        x.draft(0, 1);
        return take(x, taker, Check.COLLINEAR);
      });
      refusedInRich(taker + " of too many", Check.NONE, x -> {
        x.draft(0, 1, 2, 3);
        return take(x, taker, Check.COLLINEAR);
      });
      refusedInRich(taker + " of none", Check.NONE, x -> take(x, taker, Check.COLLINEAR));
      refusedInRich(taker + " of the same", Check.NONE, x -> {
        x.draft(0, 1, 0);
        return take(x, taker, Check.COLLINEAR);
      });
      refusedInRich(taker + " of what is not TRUE", taker.equals("isTrue") ? 0 : Check.FALSE, x -> {
        x.draft(0, 1, 3);
        return take(x, taker, Check.COLLINEAR);
      });
    }
    changesNothing("fact when there are 30", full(), full(), Check.NONE, x -> x.fact(Check.EQUAL, 6, 3, 5, 3));
    changesNothing("fact, not TRUE, when there are 30", full(), full(), Check.NONE, x -> x.fact(Check.EQUAL, 6, 3, 5, 4));
  }

  private static void refusedOthers() {
    refusedWithDraft("point when there are 7 and HYPOTHESES", Check.NONE, x -> x.point(9, 9));
    refusedWithDraft("of(7)", Check.NONE, x -> x.of(7));
    refusedWithDraft("of(-1)", Check.NONE, x -> x.of(-1));
    refusedWithDraft("of(8)", Check.NONE, x -> x.of(8));
    refusedWithDraft("turn(4)", 0, x -> x.turn(4, true) ? 1 : 0);
    refusedWithDraft("turn(-1)", 0, x -> x.turn(-1, false) ? 1 : 0);
    refusedWithDraft("turn(32)", 0, x -> x.turn(32, false) ? 1 : 0);
    refusedWithDraft("need(2)", Check.NONE, x -> x.need(2));
    refusedWithDraft("need(-1)", Check.NONE, x -> x.need(-1));
    refusedWithDraft("line(0, 7)", 0, x -> x.line(0, 7));
    refusedWithDraft("line(3, 3)", 0, x -> x.line(3, 3));
    refusedWithDraft("circle(0, 1, 7)", 0, x -> x.circle(0, 1, 7));
    refusedWithDraft("circle(0, 1, 2)", 0, x -> x.circle(0, 1, 2));
    refusedWithDraft("length(7, 0)", Check.NONE, x -> x.length(7, 0));
    refusedWithDraft("length(3, 3)", Check.NONE, x -> x.length(3, 3));
    refusedWithDraft("told(8)", Check.NONE, x -> x.told(8));
    refusedWithDraft("told(-1)", Check.NONE, x -> x.told(-1));
  }

  private static void refusedPoint(String what, int size, int px, int py) {
    int[] places = java.util.Arrays.copyOf(new int[] {0, 0, 4, 0, 0, 4, 9, 1, 2, 7, -3, 5, -8, -2}, 2 * size);
    Counted with = Counted.figure(places);
    Counted without = Counted.figure(places);
    Check.due("of", with.of(1) + without.of(1), 2);
    Check.due("of", with.of(0) + without.of(0), 4);
    Check.due(what, with.point(px, py), Check.NONE);
    Check.due("what is seen behind " + what, with.state(), without.state());
    Check.due("THE DRAFT behind " + what, with.of(0), 3);
    Check.due("THE DRAFT behind " + what, with.of(2), 4);
    Check.due("THE DRAFT 1 0 0 2 behind " + what, with.isTrue(Check.PERPENDICULAR), 1);
    if (size < 7) Check.due("the next point behind " + what, with.point(50, 60), size);
  }

  private static void refusedPoints() {
    for (int size = 3; size <= 7; size++) {
      refusedPoint("point(1001, 3) of " + size, size, 1001, 3);
      refusedPoint("point(-1001, 3) of " + size, size, -1001, 3);
      refusedPoint("point(3, 1001) of " + size, size, 3, 1001);
      refusedPoint("point(3, -1001) of " + size, size, 3, -1001);
      refusedPoint("point at the place of 0 of " + size, size, 0, 0);
      refusedPoint("point at the place of 2 of " + size, size, 0, 4);
    }
    refusedPoint("an eighth point", 7, 50, 60);
  }

  private static void changesNothingElse() {
    Check.sentence(TERMS, "what is refused changes nothing else");
    refusedTakers();
    refusedOthers();
    refusedPoints();
    Counted full = rich();
    for (int i = 0; i < 8; i++) full.of(i % 4);
    String before = full.state();
    Check.due("a ninth", full.of(5), Check.NONE);
    Check.due("what is seen behind it", full.state(), before);
    Check.due("THE DRAFT 0 1 2 3 0 1 2 3 behind it", full.isTrue(Check.ANGLE), 1);
  }

  private static void calls() {
    Check.sentence("What it is", "An object is used for at most 512 calls after it has been made");
    Counted x = rich();
    while (x.calls() < 510) x.told(7);
    Check.due("call 511", x.need(1), 1);
    Check.due("call 512", x.line(0, 1), 7);
    Check.due("calls", x.calls(), Counted.MOST_CALLS);
    Counted y = rich();
    while (y.calls() < 507) y.of(y.calls() % 8);
    Check.due("call 508", y.isTrue(-1), Check.NONE);
    Check.due("call 509", y.of(0), 1);
    Check.due("call 510", y.of(1), 2);
    Check.due("call 511", y.of(2), 3);
    Check.due("call 512", y.needs(Check.COLLINEAR), 1);
    Check.due("calls", y.calls(), Counted.MOST_CALLS);
  }

  /** What they answer is free, but they must not throw, by rule 7 of LANGUAGE.md. */
  private static void laterCalls() {
    Check.sentence("What it is", "what later calls answer is free");
    AngleChains x = new AngleChains();
    for (int i = 0; i < 4000; i++) {
      int odd = Check.ODD[i % Check.ODD.length];
      x.point(i % 9, odd % 1000);
      for (int j = 0; j < i % 9; j++) x.of((i + j * j) % 8);
      x.fact(i % 8);
      x.turn(i % 32, i % 3 == 0);
      for (int j = 0; j < (i + 4) % 9; j++) x.of((i + j) % 8);
      x.needs(i % 7);
      x.line(i % 8, odd);
      x.told(i % 9);
    }
    Check.due("POINTS are still at most 7", x.told(0) <= 7, true);
  }

  public static void main(String[] args) {
    atMostEight();
    leavesItEmpty();
    othersLeaveIt();
    firstRefusal();
    changesNothingElse();
    calls();
    laterCalls();
    Check.end();
  }
}
