/**
 * An object of AngleChains that counts its calls. "An object is used for at most 512 calls": what
 * later ones answer is free, so a test that asks for it is itself wrong.
 */
final class Counted {
  static final int MOST_CALLS = 512;

  private final AngleChains chains = new AngleChains();
  private int calls = 0;

  /** x0, y0, x1, y1, .. */
  static Counted figure(int... places) {
    Counted x = new Counted();
    for (int i = 0; i + 1 < places.length; i += 2) Check.due("point " + i / 2, x.point(places[i], places[i + 1]), i / 2);
    return x;
  }

  private AngleChains used() {
    calls++;
    if (calls > MOST_CALLS) throw new IllegalStateException("a test with more than 512 calls on one object");
    return chains;
  }

  int calls() {
    return calls;
  }

  int point(int x, int y) {
    return used().point(x, y);
  }

  int of(int point) {
    return used().of(point);
  }

  int isTrue(int kind) {
    return used().isTrue(kind);
  }

  int fact(int kind) {
    return used().fact(kind);
  }

  boolean turn(int hypothesis, boolean on) {
    return used().turn(hypothesis, on);
  }

  int follows(int kind) {
    return used().follows(kind);
  }

  int needs(int kind) {
    return used().needs(kind);
  }

  int need(int k) {
    return used().need(k);
  }

  int line(int a, int b) {
    return used().line(a, b);
  }

  int circle(int a, int b, int c) {
    return used().circle(a, b, c);
  }

  int length(int a, int b) {
    return used().length(a, b);
  }

  int told(int what) {
    return used().told(what);
  }

  void draft(int... points) {
    for (int point : points) of(point);
  }

  int isTrue(int kind, int... points) {
    draft(points);
    return isTrue(kind);
  }

  int fact(int kind, int... points) {
    draft(points);
    return fact(kind);
  }

  int follows(int kind, int... points) {
    draft(points);
    return follows(kind);
  }

  int needs(int kind, int... points) {
    draft(points);
    return needs(kind);
  }

  /** The HYPOTHESES that need() tells, in one text: "0 3 ". */
  String left() {
    StringBuilder text = new StringBuilder();
    int number = need(0);
    for (int k = 1; number >= 0 && k <= 31; k++) {
      text.append(number).append(' ');
      number = need(k);
    }
    return text.toString();
  }

  /** All that can be seen without changing anything. */
  String state() {
    StringBuilder text = new StringBuilder("told");
    for (int what = 0; what < 8; what++) text.append(' ').append(told(what));
    text.append(" left ").append(left());
    for (int a = 0; a < 7; a++) {
      for (int b = a + 1; b < 7; b++) {
        text.append(' ').append(line(a, b)).append('/').append(length(a, b));
        for (int c = b + 1; c < 7; c++) text.append(',').append(circle(a, b, c));
      }
    }
    return text.toString();
  }
}
