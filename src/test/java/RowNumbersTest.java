import java.util.ArrayList;
import java.util.List;

/**
 * "all sums of whole multiples": on seven POINTS of one line all directions are the same, so ANGLES of
 * any lines may be told, and such can be chosen that the numbers of the ROWS become very large. What
 * is due there is what PlainModel answers, whose numbers may have any size.
 */
public final class RowNumbersTest {
  private static final String SENTENCE = "What follows of ROWS are all sums of whole multiples of those that came";
  private static final int[] PLACES = {0, 1, 3, 7, 15, 31, 100};
  private static final int PAIRS = 21;

  /** Four pairs each. A search for the largest numbers came to these: beyond 2^38, to be divided by odd ones. */
  private static final int[][][] LARGEST = {
    {{11, 16, 3, 11}, {20, 4, 4, 10}, {5, 12, 12, 13}, {10, 6, 6, 0}, {2, 7, 7, 20}, {5, 8, 13, 5}, {4, 1, 1, 6},
      {10, 20, 14, 10}, {9, 16, 16, 20}, {20, 13, 13, 11}, {20, 18, 18, 12}, {19, 0, 0, 4}, {16, 8, 8, 13}, {20, 9, 9, 17},
      {20, 2, 2, 15}, {7, 17, 17, 4}, {4, 15, 15, 1}, {20, 3, 3, 16}, {20, 14, 14, 19}, {20, 19, 19, 18}},
    {{15, 1, 1, 20}, {4, 18, 20, 4}, {9, 19, 16, 9}, {14, 20, 8, 14}, {2, 0, 0, 1}, {20, 12, 12, 17}, {12, 5, 5, 0},
      {3, 13, 12, 3}, {20, 13, 13, 5}, {4, 15, 15, 19}, {7, 3, 20, 7}, {20, 8, 8, 6}, {18, 11, 20, 18}, {1, 16, 16, 10},
      {6, 3, 7, 6}, {11, 14, 20, 11}, {17, 20, 1, 17}, {1, 10, 10, 12}, {9, 2, 2, 1}, {19, 4, 20, 19}},
    {{20, 4, 4, 7}, {2, 9, 9, 12}, {6, 0, 11, 6}, {1, 16, 16, 20}, {1, 20, 19, 1}, {15, 7, 4, 15}, {20, 13, 13, 10},
      {17, 20, 15, 17}, {3, 12, 12, 20}, {8, 11, 11, 17}, {14, 5, 12, 14}, {8, 17, 13, 8}, {18, 9, 20, 18}, {7, 13, 20, 7},
      {14, 0, 0, 12}, {3, 11, 4, 3}, {11, 5, 5, 12}, {2, 12, 6, 2}, {20, 10, 10, 16}, {19, 20, 18, 19}}};

  private final Counted ours = new Counted();
  private final PlainModel model = new PlainModel();

  private RowNumbersTest() {
    for (int place : PLACES) Check.due("point", ours.point(place, 0), model.point(place, 0));
  }

  private void draft(int[] pairs) {
    for (int pair : pairs) {
      int number = 0;
      for (int a = 0; a < 7; a++) {
        for (int b = a + 1; b < 7; b++) {
          if (number == pair) Check.due("of", ours.of(a) + ours.of(b), model.of(a) + model.of(b));
          number++;
        }
      }
    }
  }

  private void tell(int... pairs) {
    draft(pairs);
    Check.due("fact", ours.fact(Check.ANGLE), model.fact(Check.ANGLE));
  }

  private int follows(int kind, int... pairs) {
    draft(pairs);
    int want = model.follows(kind);
    Check.due("follows(" + kind + ") of pairs " + java.util.Arrays.toString(pairs), ours.follows(kind), want);
    return want;
  }

  private void looks(String what) {
    for (int t = 4; t < 8; t++) Check.due(what + ", told(" + t + ")", ours.told(t), model.told(t));
    for (int a = 1; a < 7; a++) Check.due(what + ", line(0, " + a + ")", ours.line(0, a), model.line(0, a));
  }

  /** d(i) - d(20) is twice d(i + 1) - d(20): what the first is, is 2^19 times what the last but one is. */
  private static RowNumbersTest doubled() {
    RowNumbersTest x = new RowNumbersTest();
    for (int i = 0; i < PAIRS - 2; i++) x.tell(i, i + 1, i + 1, PAIRS - 1);
    return x;
  }

  private static void powers() {
    Check.sentence("Terms", SENTENCE);
    RowNumbersTest open = doubled();
    Check.due("ROWS", open.ours.told(7), 19);
    Check.due("LINES", open.ours.told(4), 21);
    open.looks("2^19 times");
    Check.due("2^19 times is not 0", open.follows(Check.PARALLEL, 0, 20), 0);
    Check.due("twice", open.follows(Check.ANGLE, 17, 18, 18, 20), 1);
    Check.due("four times is not twice", open.follows(Check.ANGLE, 16, 18, 18, 20), 0);
    Check.due("2^18 and 2^18 are 2^19", open.follows(Check.ANGLE, 1, 20, 0, 1), 1);

    RowNumbersTest halved = doubled();
    halved.tell(0, 20, 20, 0);
    Check.due("2^20 times is 0: ROWS", halved.ours.told(7), 20);
    halved.looks("2^20 times is 0");
    Check.due("2^19 times is not 0", halved.follows(Check.PARALLEL, 0, 20), 0);
    Check.due("2^19 times is not 2^18 times", halved.follows(Check.PARALLEL, 0, 1), 0);

    RowNumbersTest odd = doubled();
    odd.tell(19, 0, 0, 20);
    Check.due("2^20 - 1 times is 0: LINES", odd.ours.told(4), 21);
    Check.due("2^20 - 1 times is 0: ROWS", odd.ours.told(7), 20);
    odd.looks("2^20 - 1 times is 0");
    Check.due("once is not 0", odd.follows(Check.PARALLEL, 19, 20), 0);
    odd.tell(7, 20, 20, 7);
    Check.due("2^13 times too: LINES", odd.ours.told(4), 1);
    Check.due("2^13 times too: ROWS", odd.ours.told(7), 0);
    odd.looks("2^13 times too");
    Check.due("once is 0", odd.follows(Check.PARALLEL, 19, 20), 1);
    odd.ours.turn(20, false);
    odd.model.turn(20, false);
    Check.due("LINES with one OFF", odd.ours.told(4), 21);
    odd.looks("with one OFF");
  }

  private static void largest() {
    for (int[][] angles : LARGEST) {
      Check.sentence("Terms", SENTENCE);
      for (int last = 18; last <= angles.length; last++) {
        RowNumbersTest x = new RowNumbersTest();
        for (int i = 0; i < last; i++) x.tell(angles[i]);
        x.looks("the first " + last);
        List<int[]> asked = new ArrayList<>();
        for (int i = 0; i < angles.length; i++) asked.add(angles[i]);
        asked.add(new int[] {18, 19, 19, 20});
        asked.add(new int[] {0, 20, 20, 0});
        for (int[] pairs : asked) x.follows(Check.ANGLE, pairs);
        x.follows(Check.PARALLEL, 18, 20);
        x.follows(Check.PARALLEL, 0, 20);
      }
    }
  }

  public static void main(String[] args) {
    powers();
    largest();
    Check.end();
  }
}
