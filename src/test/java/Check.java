/** What the tests share: the sentence that is tested, and counting wrong answers. */
final class Check {
  static final int NONE = -1;
  static final int FALSE = -2;

  static final int COLLINEAR = 0;
  static final int PARALLEL = 1;
  static final int PERPENDICULAR = 2;
  static final int CIRCLE = 3;
  static final int EQUAL = 4;
  static final int MIDDLE = 5;
  static final int ANGLE = 6;

  /** How many POINTS a FACT of each kind has. */
  static final int[] SIZES = {3, 4, 4, 4, 4, 3, 8};

  /** No kinds, no POINTS of seven, no HYPOTHESES of thirty, some of them so when bits wrap around. */
  static final int[] ODD = {
    Integer.MIN_VALUE, Integer.MIN_VALUE + 1, -(1 << 24), -65536, -1001, -256, -32, -31, -30, -8, -7, -2, -1,
    30, 31, 32, 33, 62, 64, 255, 256, 257, 1001, 65536, 1 << 24, 1 << 29, 1 << 30, Integer.MAX_VALUE - 1, Integer.MAX_VALUE};

  private static String about = "";
  private static int sentences = 0;
  private static int asked = 0;
  private static int wrong = 0;

  private Check() {
  }

  /** The answers from here on are due by these words of that part of the document. */
  static void sentence(String part, String words) {
    about = part + ", \"" + words + "\": ";
    sentences++;
  }

  static void due(String what, long got, long want) {
    due(what, Long.toString(got), Long.toString(want));
  }

  static void due(String what, boolean got, boolean want) {
    due(what, Boolean.toString(got), Boolean.toString(want));
  }

  static void due(String what, String got, String want) {
    asked++;
    if (!got.equals(want)) {
      wrong++;
      System.out.println(about + what + " answered " + got + ", due is " + want);
    }
  }

  static void end() {
    System.out.println(sentences + " sentences, " + asked + " answers, " + wrong + " not as due");
    if (wrong != 0) System.exit(1);
  }
}
