/** Promise 12: length. */
public final class Promise12LengthTest {
  private static final String PROMISE = "Promise 12";

  /** |06| = |16| = |56| = |12| = |34| = 5 */
  private static Counted equals() {
    return Counted.figure(5, 0, 3, 4, 3, 9, 7, 1, 7, 6, -4, 3, 0, 0);
  }

  private static void leastPair() {
    Check.sentence(PROMISE, "The LENGTH of two POINTS, likewise: the least pair in it, as 12 a + b, a below b");
    Counted x = equals();
    for (int a = 0; a < 7; a++) {
      for (int b = a + 1; b < 7; b++) {
        Check.due("length(" + a + ", " + b + ")", x.length(a, b), 12 * a + b);
        Check.due("length(" + b + ", " + a + ")", x.length(b, a), 12 * a + b);
      }
    }
    Check.due("fact", x.fact(Check.EQUAL, 5, 6, 3, 4), 0);
    Check.due("34, not 56, of both", x.length(6, 5), 40);
    Check.due("34, not 56, of both", x.length(3, 4), 40);
    Check.due("fact", x.fact(Check.EQUAL, 5, 6, 1, 6), 1);
    Check.due("16, not 34", x.length(4, 3), 18);
    Check.due("fact", x.fact(Check.EQUAL, 2, 1, 3, 4), 2);
    Check.due("12, not 16", x.length(5, 6), 14);
    Check.due("12, not 16", x.length(1, 6), 14);
    Check.due("fact", x.fact(Check.EQUAL, 6, 0, 6, 5), 3);
    Check.due("06, not 12", x.length(5, 6), 6);
    Check.due("06, not 12", x.length(1, 2), 6);
    Check.due("06 itself", x.length(6, 0), 6);
    Check.due("another", x.length(4, 5), 53);
    x.turn(3, false);
    Check.due("12 again", x.length(5, 6), 14);
    Check.due("06 alone", x.length(0, 6), 6);
    x.turn(1, false);
    x.turn(2, false);
    Check.due("34 again", x.length(5, 6), 40);
    x.turn(0, false);
    Check.due("56 alone", x.length(5, 6), 66);
    Check.due("01 alone", x.length(1, 0), 1);
  }

  private static void noSuchPoint() {
    Check.sentence(PROMISE, "NONE when there is no such POINT");
    for (int size = 0; size <= 7; size++) {
      Counted x = new Counted();
      for (int i = 0; i < size; i++) x.point(i, i * i);
      Check.due("length(-1, 0) of " + size, x.length(-1, 0), Check.NONE);
      Check.due("length(0, -1) of " + size, x.length(0, -1), Check.NONE);
      Check.due("length(" + size + ", 0) of " + size, x.length(size, 0), Check.NONE);
      Check.due("length(0, " + size + ") of " + size, x.length(0, size), Check.NONE);
      Check.due("length(-1, " + size + ") of " + size, x.length(-1, size), Check.NONE);
      if (size > 1) {
        Check.due("length(" + (size - 1) + ", 0) of " + size, x.length(size - 1, 0), size - 1);
        Check.due("length(0, " + (size - 1) + ") of " + size, x.length(0, size - 1), size - 1);
      }
      for (int odd : Check.ODD) {
        Check.due("length(" + odd + ", 0) of " + size, x.length(odd, 0), Check.NONE);
        Check.due("length(0, " + odd + ") of " + size, x.length(0, odd), Check.NONE);
      }
    }
    Counted all = equals();
    all.fact(Check.EQUAL, 5, 6, 0, 6);
    Check.due("length(6, 7)", all.length(6, 7), Check.NONE);
    Check.due("length(7, 8)", all.length(7, 8), Check.NONE);
    Check.due("length(-1, 6)", all.length(-1, 6), Check.NONE);
  }

  private static void same() {
    Check.sentence(PROMISE, "or both are the same");
    Counted x = equals();
    for (int a = -1; a <= 8; a++) Check.due("length(" + a + ", " + a + ")", x.length(a, a), Check.NONE);
    x.fact(Check.EQUAL, 5, 6, 0, 6);
    for (int a = -1; a <= 8; a++) Check.due("length(" + a + ", " + a + ")", x.length(a, a), Check.NONE);
    Check.due("length(5, 6)", x.length(5, 6), 6);
  }

  public static void main(String[] args) {
    leastPair();
    noSuchPoint();
    same();
    Check.end();
  }
}
