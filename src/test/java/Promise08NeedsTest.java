/** Promise 8: needs. */
public final class Promise08NeedsTest {
  private static final String PROMISE = "Promise 8";

  private static Counted row() {
    return Counted.figure(0, 0, 1, 0, 2, 0, 3, 0, 4, 0, 0, 5);
  }

  private static void fromTheLast() {
    Check.sentence(PROMISE, "from the last one of them to the first, each that can be left out, the FACT still FOLLOWING from the others that are left, is left out");
    Counted twice = row();
    twice.fact(Check.COLLINEAR, 0, 1, 2);
    twice.fact(Check.COLLINEAR, 2, 1, 0);
    Check.due("two that say the same", twice.needs(Check.COLLINEAR, 1, 0, 2), 1);
    Check.due("the last is left out", twice.left(), "0 ");
    twice.turn(0, false);
    Check.due("the first is OFF", twice.needs(Check.COLLINEAR, 1, 0, 2), 1);
    Check.due("the last is left", twice.left(), "1 ");

    Counted more = row();
    more.fact(Check.EQUAL, 0, 1, 1, 2);
    more.fact(Check.EQUAL, 1, 2, 2, 3);
    more.fact(Check.EQUAL, 0, 1, 2, 3);
    Check.due("two are left where one would do", more.needs(Check.EQUAL, 0, 1, 3, 2), 2);
    Check.due("the first two", more.left(), "0 1 ");
    Counted less = row();
    less.fact(Check.EQUAL, 0, 1, 2, 3);
    less.fact(Check.EQUAL, 0, 1, 1, 2);
    less.fact(Check.EQUAL, 1, 2, 2, 3);
    Check.due("one is left", less.needs(Check.EQUAL, 0, 1, 3, 2), 1);
    Check.due("the first", less.left(), "0 ");
    Counted between = row();
    between.fact(Check.EQUAL, 0, 1, 1, 2);
    between.fact(Check.EQUAL, 0, 1, 2, 3);
    between.fact(Check.EQUAL, 1, 2, 2, 3);
    Check.due("the first can be left out, behind the last", between.needs(Check.EQUAL, 0, 1, 3, 2), 1);
    Check.due("the second", between.left(), "1 ");
    between.turn(1, false);
    Check.due("with the second OFF", between.needs(Check.EQUAL, 0, 1, 3, 2), 2);
    Check.due("the others", between.left(), "0 2 ");
    Check.due("needs() turns none", between.told(2), 2);
  }

  /** The pairs 01, 02, .. 56 in such an order that no part of the chain below joins LINES. */
  private static final int[] ORDER = {18, 13, 8, 1, 11, 16, 6, 10, 7, 3, 19, 9, 20, 5, 4, 15, 17, 14, 0, 12, 2};

  private static int[] pair(int place) {
    int number = 0;
    for (int a = 0; a < 7; a++) {
      for (int b = a + 1; b < 7; b++) {
        if (number == ORDER[place]) return new int[] {a, b};
        number++;
      }
    }
    throw new IllegalArgumentException("no such pair");
  }

  private static int angle(Counted x, int p, int q, int r, int s) {
    x.draft(pair(p));
    x.draft(pair(q));
    x.draft(pair(r));
    x.draft(pair(s));
    return x.fact(Check.ANGLE);
  }

  /**
   * The turn from each pair to the next is the same, 20 - 10 - 9 + 0 such turns are none, so all are
   * one LINE; and five EQUALS go from 01 to 12 by way of all others that are as long.
   */
  private static void howMany() {
    Check.sentence(PROMISE, "How many are left (need() tells them)");
    Counted x = Counted.figure(0, 0, 1, 0, 2, 0, 3, 0, 4, 0, 5, 0, 6, 0);
    int[][] equals = {{0, 1, 2, 3}, {2, 3, 3, 4}, {3, 4, 4, 5}, {4, 5, 5, 6}, {5, 6, 1, 2}};
    StringBuilder want = new StringBuilder();
    int link = 0;
    for (int i = 0; i < 30; i++) {
      if (i % 7 == 0) {
        Check.due("one that is not needed", x.fact(Check.EQUAL, 0, 2, 1, 3), i);
      } else {
        if (link < 19) Check.due("a turn", angle(x, link, link + 1, link + 1, link + 2), i);
        else if (link == 19) Check.due("the last turn", angle(x, 20, 10, 9, 0), i);
        else Check.due("a distance", x.fact(Check.EQUAL, equals[link - 20]), i);
        want.append(i).append(' ');
        link++;
      }
    }
    Check.due("links of the chain", link, 25);
    Check.due("all of the chain", x.needs(Check.MIDDLE, 1, 0, 2), 25);
    Check.due("by their numbers", x.left(), want.toString());
    Check.due("told(2)", x.told(2), 30);
    Check.due("LINES", x.told(4), 1);
    Check.due("the distances alone", x.needs(Check.EQUAL, 0, 1, 1, 2), 5);
    Check.due("by their numbers", x.left(), "24 25 26 27 29 ");
    Check.due("the turns alone", x.needs(Check.COLLINEAR, 1, 0, 2), 20);
    x.turn(29, false);
    Check.due("without the last", x.needs(Check.MIDDLE, 1, 0, 2), 0);
    x.turn(29, true);
    x.turn(1, false);
    Check.due("without the first", x.needs(Check.MIDDLE, 1, 0, 2), 0);
    Check.due("without the first", x.told(4), 21);
  }

  private static void thirty() {
    Check.sentence(PROMISE, "Which HYPOTHESES that are ON");
    Counted x = row();
    for (int i = 0; i < 29; i++) Check.due("fact", x.fact(Check.COLLINEAR, 0, 1, 2), i);
    Check.due("fact", x.fact(Check.EQUAL, 0, 1, 1, 2), 29);
    Check.due("the last of thirty", x.needs(Check.EQUAL, 2, 1, 1, 0), 1);
    Check.due("the last of thirty", x.left(), "29 ");
    Check.due("the first and the last of thirty", x.needs(Check.MIDDLE, 1, 0, 2), 2);
    Check.due("the first and the last of thirty", x.left(), "0 29 ");
    for (int i = 0; i < 28; i++) x.turn(i, false);
    Check.due("those that are OFF do not count", x.needs(Check.MIDDLE, 1, 0, 2), 2);
    Check.due("those that are OFF do not count", x.left(), "28 29 ");
    x.turn(29, false);
    Check.due("one that is needed is OFF", x.needs(Check.MIDDLE, 1, 0, 2), 0);
    Check.due("none is left", x.left(), "");
  }

  private static void zero() {
    Check.sentence(PROMISE, "0 when it does not FOLLOW, or FOLLOWS from none");
    Counted x = row();
    Check.due("does not FOLLOW, no HYPOTHESES", x.needs(Check.COLLINEAR, 0, 1, 2), 0);
    Check.due("FOLLOWS from none, no HYPOTHESES", x.needs(Check.PARALLEL, 0, 1, 1, 0), 0);
    Check.due("none is left", x.left(), "");
    x.fact(Check.COLLINEAR, 0, 1, 2);
    x.fact(Check.COLLINEAR, 2, 3, 4);
    Check.due("one is needed", x.needs(Check.COLLINEAR, 0, 1, 2), 1);
    Check.due("does not FOLLOW", x.needs(Check.COLLINEAR, 0, 1, 3), 0);
    Check.due("none is left", x.left(), "");
    Check.due("both are needed", x.needs(Check.ANGLE, 0, 1, 1, 2, 2, 3, 3, 4), 2);
    Check.due("both are left", x.left(), "0 1 ");
    Check.due("FOLLOWS from none", x.needs(Check.EQUAL, 0, 1, 1, 0), 0);
    Check.due("none is left", x.left(), "");
    x.needs(Check.COLLINEAR, 2, 3, 4);
    Check.due("one is left", x.left(), "1 ");
    x.turn(1, false);
    Check.due("it is OFF", x.needs(Check.COLLINEAR, 2, 3, 4), 0);
    Check.due("none is left", x.left(), "");
  }

  private static void refused() {
    Check.sentence(PROMISE, "NONE, FALSE as follows() (need() stays)");
    Counted x = row();
    Check.due("NONE before all", x.needs(Check.COLLINEAR, 0, 1), Check.NONE);
    Check.due("FALSE before all", x.needs(Check.COLLINEAR, 0, 1, 5), Check.FALSE);
    Check.due("need(0)", x.need(0), Check.NONE);
    x.fact(Check.EQUAL, 3, 4, 1, 2);
    x.fact(Check.COLLINEAR, 0, 1, 2);
    x.fact(Check.EQUAL, 0, 1, 1, 2);
    Check.due("two", x.needs(Check.MIDDLE, 1, 0, 2), 2);
    int[][] none = {{-1, 1, 0, 2}, {7, 1, 0, 2}, {8, 1, 0, 2}, {Check.MIDDLE}, {Check.MIDDLE, 1, 0}, {Check.MIDDLE, 1, 0, 2, 3},
      {Check.MIDDLE, 1, 0, 0}, {Check.MIDDLE, 1, 1, 0}, {Check.EQUAL, 0, 0, 1, 2}, {Check.EQUAL, 0, 1, 2, 2}, {Check.ANGLE, 0, 1, 0, 1, 0, 1, 0}};
    for (int[] f : none) {
      x.draft(java.util.Arrays.copyOfRange(f, 1, f.length));
      Check.due("kind " + f[0] + " of " + (f.length - 1), x.needs(f[0]), Check.NONE);
      Check.due("need() stays", x.left(), "1 2 ");
    }
    int[][] notTrue = {{0, 0, 1, 5}, {1, 0, 1, 0, 5}, {2, 0, 1, 2, 3}, {3, 0, 1, 2, 3}, {4, 0, 1, 0, 2}, {5, 0, 1, 2}, {6, 0, 1, 0, 5, 0, 1, 1, 5}};
    for (int[] f : notTrue) {
      x.draft(java.util.Arrays.copyOfRange(f, 1, f.length));
      Check.due("not TRUE, kind " + f[0], x.needs(f[0]), Check.FALSE);
      Check.due("need() stays", x.left(), "1 2 ");
    }
    for (int odd : Check.ODD) Check.due("kind " + odd, x.needs(odd, 1, 0, 2), Check.NONE);
    Check.due("need() stays", x.left(), "1 2 ");
    Check.due("does not FOLLOW", x.needs(Check.COLLINEAR, 2, 3, 4), 0);
    Check.due("0 is none of these", x.left(), "");
    Check.due("not TRUE behind 0", x.needs(Check.COLLINEAR, 2, 3, 5), Check.FALSE);
    Check.due("need() stays", x.left(), "");
  }

  public static void main(String[] args) {
    fromTheLast();
    howMany();
    thirty();
    zero();
    refused();
    Check.end();
  }
}
