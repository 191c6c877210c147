/** Promise 10: line. */
public final class Promise10LineTest {
  private static final String PROMISE = "Promise 10";

  private static Counted row() {
    return Counted.figure(0, 0, 1, 0, 2, 0, 3, 0, 4, 0, 5, 0, 6, 0);
  }

  private static void bits() {
    Check.sentence(PROMISE, "The LINE of two POINTS by what FOLLOWS from the HYPOTHESES that are ON, as bits of POINTS");
    Counted x = row();
    Check.due("the first two", x.line(0, 1), 3);
    Check.due("the last two", x.line(5, 6), 96);
    Check.due("the last two backwards", x.line(6, 5), 96);
    Check.due("the first and the last", x.line(0, 6), 65);
    for (int c = 2; c < 7; c++) {
      Check.due("fact", x.fact(Check.COLLINEAR, 0, 1, c), c - 2);
      Check.due("line to " + c, x.line(c, 0), (1 << c + 1) - 1);
    }
    Check.due("all seven", x.line(5, 6), 127);
    x.turn(4, false);
    Check.due("the last OFF", x.line(0, 1), 63);
    Check.due("the last OFF, to the last", x.line(5, 6), 96);
    for (int i = 0; i < 4; i++) x.turn(i, false);
    Check.due("all OFF", x.line(0, 1), 3);
    x.turn(0, true);
    Check.due("one ON", x.line(1, 2), 7);
    Check.due("one ON, another line", x.line(1, 3), 10);
  }

  private static void noSuchPoint() {
    Check.sentence(PROMISE, "0 when there is no such POINT");
    for (int size = 0; size <= 7; size++) {
      Counted x = new Counted();
      for (int i = 0; i < size; i++) x.point(i, i * i);
      Check.due("line(-1, 0) of " + size, x.line(-1, 0), 0);
      Check.due("line(0, -1) of " + size, x.line(0, -1), 0);
      Check.due("line(" + size + ", 0) of " + size, x.line(size, 0), 0);
      Check.due("line(0, " + size + ") of " + size, x.line(0, size), 0);
      Check.due("line(-1, " + size + ") of " + size, x.line(-1, size), 0);
      if (size > 1) {
        Check.due("line(" + (size - 1) + ", 0) of " + size, x.line(size - 1, 0), 1 | 1 << size - 1);
        Check.due("line(0, " + (size - 1) + ") of " + size, x.line(0, size - 1), 1 | 1 << size - 1);
      }
      for (int odd : Check.ODD) {
        Check.due("line(" + odd + ", 0) of " + size, x.line(odd, 0), 0);
        Check.due("line(0, " + odd + ") of " + size, x.line(0, odd), 0);
      }
    }
    Counted all = row();
    for (int c = 2; c < 7; c++) all.fact(Check.COLLINEAR, 0, 1, c);
    Check.due("line(6, 7) of seven on one LINE", all.line(6, 7), 0);
    Check.due("line(7, 6) of seven on one LINE", all.line(7, 6), 0);
    Check.due("line(-1, 6) of seven on one LINE", all.line(-1, 6), 0);
    Check.due("line(7, 8) of seven on one LINE", all.line(7, 8), 0);
  }

  private static void same() {
    Check.sentence(PROMISE, "or both are the same");
    Counted x = row();
    for (int a = -1; a <= 8; a++) Check.due("line(" + a + ", " + a + ")", x.line(a, a), 0);
    x.fact(Check.COLLINEAR, 0, 1, 2);
    for (int a = -1; a <= 8; a++) Check.due("line(" + a + ", " + a + ")", x.line(a, a), 0);
    Check.due("line(0, 1)", x.line(0, 1), 7);
  }

  public static void main(String[] args) {
    bits();
    noSuchPoint();
    same();
    Check.end();
  }
}
