import java.util.ArrayList;
import java.util.List;
import java.util.Random;

/** Long runs of calls, made with a fixed seed, on AngleChains and on PlainModel side by side. */
public final class ModelTest {
  private static final int[][] ROUND = {
    {0, 0}, {5, 0}, {-5, 0}, {0, 5}, {0, -5}, {3, 4}, {-3, 4}, {3, -4}, {-3, -4}, {4, 3}, {-4, 3}, {4, -3}, {-4, -3}};
  private static final int[][] BISECTED = {
    {0, 0}, {4, 0}, {2, 0}, {2, 3}, {2, -3}, {0, 3}, {4, 3}, {0, 6}, {2, 2}, {1, 1}, {3, 1}, {0, 4}, {4, 4}, {0, 2}};
  private static final int[][] HEIGHTS = {
    {0, 0}, {14, 0}, {5, 12}, {5, 0}, {7, 0}, {10, 6}, {-10, 0}, {10, 12}, {5, 6}, {19, 12}, {9, 12}, {-9, 12}};
  private static final int[] SIZES = {3, 4, 4, 4, 4, 3, 8};
  private static int wrong = 0;
  private static long calls = 0;

  private final int run;
  private final Random random;
  private final AngleChains ours = new AngleChains();
  private final PlainModel model = new PlainModel();
  private final StringBuilder told = new StringBuilder();
  private final List<int[]> truths = new ArrayList<>();
  private int callsOfRun = 0;

  private ModelTest(int run, Random random) {
    this.run = run;
    this.random = random;
  }

  private int same(String call, int got, int want) {
    calls++;
    callsOfRun++;
    told.append(call).append(" = ").append(want).append("; ");
    if (got != want) {
      wrong++;
      if (wrong <= 5) System.out.println("run " + run + ": " + told + "\n  .. but answered " + got);
    }
    return want;
  }

  private void point(int x, int y) {
    same("point(" + x + ", " + y + ")", ours.point(x, y), model.point(x, y));
  }

  private void points() {
    int form = random.nextInt(6);
    int many = form == 5 && random.nextBoolean() ? random.nextInt(7) : 5 + random.nextInt(3);
    int scale = 1 + random.nextInt(3) * random.nextInt(60);
    int grid = 2 + random.nextInt(4);
    for (int tries = 0; tries < 60 && model.points.size() < many; tries++) {
      int[] place = form == 0 ? pick(ROUND) : form == 1 ? pick(BISECTED) : form == 2 ? pick(HEIGHTS)
        : form == 3 ? new int[] {random.nextInt(8), 0} : new int[] {random.nextInt(grid), random.nextInt(grid)};
      point(place[0] * scale, place[1] * scale);
    }
  }

  private int[] pick(int[][] places) {
    return places[random.nextInt(places.length)];
  }

  private int anyPoint() {
    return random.nextInt(model.points.size() + (random.nextInt(40) == 0 ? 1 : 0));
  }

  private int[] anyFact() {
    int kind = random.nextInt(7);
    int[] f = new int[SIZES[kind] + 1];
    f[0] = kind;
    for (int i = 1; i < f.length; i++) f[i] = random.nextInt(model.points.size());
    return f;
  }

  private static boolean isWell(int[] f) {
    for (int i = 1; i < f.length; i++) {
      for (int j = 1; j < i; j++) {
        boolean all = f[0] == 0 || f[0] == 3 || f[0] == 5;
        if (f[i] == f[j] && (all || (i - 1) / 2 == (j - 1) / 2)) return false;
      }
    }
    return true;
  }

  private boolean holds(int[] f) {
    return isWell(f) && model.isTrueFact(f[0], java.util.Arrays.copyOfRange(f, 1, f.length));
  }

  private int[] trueFact() {
    return truths.isEmpty() || random.nextInt(25) == 0 ? anyFact() : truths.get(random.nextInt(truths.size()));
  }

  private int draft(int[] f) {
    for (int i = 1; i < f.length; i++) same("of(" + f[i] + ")", ours.of(f[i]), model.of(f[i]));
    return f[0];
  }

  private void step() {
    int what = random.nextInt(20);
    if (what < 3) {
      int kind = draft(trueFact());
      same("fact(" + kind + ")", ours.fact(kind), model.fact(kind));
    } else if (what < 5) {
      int h = random.nextInt(model.told(1) + 1);
      boolean value = random.nextInt(3) > 0;
      same("turn(" + h + ", " + value + ")", ours.turn(h, value) ? 1 : 0, model.turn(h, value) ? 1 : 0);
    } else if (what < 10) {
      int kind = draft(trueFact());
      same("follows(" + kind + ")", ours.follows(kind), model.follows(kind));
    } else if (what < 12) {
      needs();
    } else if (what < 13) {
      int kind = draft(anyFact());
      same("isTrue(" + kind + ")", ours.isTrue(kind), model.isTrue(kind));
    } else {
      look(what);
    }
  }

  private void needs() {
    int kind = draft(trueFact());
    int many = same("needs(" + kind + ")", ours.needs(kind), model.needs(kind));
    for (int k = -1; k <= many; k++) same("need(" + k + ")", ours.need(k), model.need(k));
  }

  private void look(int what) {
    int a = anyPoint();
    int b = anyPoint();
    int c = anyPoint();
    if (what == 13) same("line(" + a + ", " + b + ")", ours.line(a, b), model.line(a, b));
    if (what == 14) same("circle(" + a + ", " + b + ", " + c + ")", ours.circle(a, b, c), model.circle(a, b, c));
    if (what == 15) same("length(" + a + ", " + b + ")", ours.length(a, b), model.length(a, b));
    if (what > 15) {
      int t = random.nextInt(10) - 1;
      same("told(" + t + ")", ours.told(t), model.told(t));
    }
  }

  private void all() {
    points();
    int n = model.points.size();
    if (n == 0) return;
    for (int i = 0; i < 3000; i++) {
      int[] f = anyFact();
      if (holds(f)) truths.add(f);
    }
    int first = random.nextInt(8) == 0 ? 27 : random.nextInt(13);
    for (int i = 0; i < first; i++) {
      int kind = draft(trueFact());
      same("fact(" + kind + ")", ours.fact(kind), model.fact(kind));
    }
    // A step has 40 calls at most and the looks at the end 85: behind the 512th all answers are free.
    for (int i = 0; i < 60 && callsOfRun < 380; i++) step();
    for (int a = 0; a < n; a++) {
      for (int b = 0; b < a; b++) {
        same("line(" + a + ", " + b + ")", ours.line(a, b), model.line(a, b));
        same("length(" + b + ", " + a + ")", ours.length(b, a), model.length(b, a));
        for (int c = 0; c < b; c++) same("circle(" + b + ", " + a + ", " + c + ")", ours.circle(b, a, c), model.circle(b, a, c));
      }
    }
    for (int t = 0; t < 8; t++) same("told(" + t + ")", ours.told(t), model.told(t));
    if (callsOfRun > 512) throw new IllegalStateException("a run with more than 512 calls");
  }

  public static void main(String[] args) {
    int runs = args.length > 0 ? Integer.parseInt(args[0]) : 250;
    long seed = args.length > 1 ? Long.parseLong(args[1]) : 1;
    for (int run = 0; run < runs; run++) new ModelTest(run, new Random(seed * 1000003 + run)).all();
    System.out.println(calls + " calls in " + runs + " runs, " + wrong + " wrong");
    if (wrong != 0) System.exit(1);
  }
}
