import java.lang.reflect.Constructor;
import java.lang.reflect.Field;
import java.lang.reflect.Method;
import java.lang.reflect.Modifier;
import java.util.TreeSet;

/** Promises 1 to 6, 9 and what the others answer without much following: edges and wrong inputs. */
public final class FaceTest {
  private static final int[] ODD = {Integer.MIN_VALUE, Integer.MIN_VALUE + 1, -1001, -2, -1, 7, 8, 12, 30, 31, 32, 33, 64, 1001, Integer.MAX_VALUE};

  private static void members() {
    TreeSet<String> names = new TreeSet<>();
    for (Method m : AngleChains.class.getDeclaredMethods()) if (!Modifier.isPrivate(m.getModifiers())) names.add(m.getName());
    for (Field f : AngleChains.class.getDeclaredFields()) if (!Modifier.isPrivate(f.getModifiers())) names.add(f.getName());
    String want = "[FALSE, NONE, circle, fact, follows, isTrue, length, line, need, needs, of, point, told, turn]";
    Check.due("the face " + names, names.toString().equals(want) ? 1 : 0, 1);
    Constructor<?>[] constructors = AngleChains.class.getDeclaredConstructors();
    Check.due("constructors", constructors.length, 1);
    Check.due("NONE", AngleChains.NONE, -1);
    Check.due("FALSE", AngleChains.FALSE, -2);
  }

  private static void newObject() {
    AngleChains x = new AngleChains();
    for (int what = 0; what < 8; what++) Check.due("new told(" + what + ")", x.told(what), 0);
    Check.due("new told(8)", x.told(8), -1);
    Check.due("new told(-1)", x.told(-1), -1);
    Check.due("new need(0)", x.need(0), -1);
    for (int kind = 0; kind < 7; kind++) {
      Check.due("new isTrue", x.isTrue(kind), -1);
      Check.due("new fact", x.fact(kind), -1);
      Check.due("new follows", x.follows(kind), -1);
      Check.due("new needs", x.needs(kind), -1);
    }
  }

  private static void points() {
    AngleChains x = new AngleChains();
    Check.due("x too high", x.point(1001, 0), -1);
    Check.due("x too low", x.point(-1001, 0), -1);
    Check.due("y too high", x.point(0, 1001), -1);
    Check.due("y too low", x.point(0, -1001), -1);
    Check.due("corner", x.point(1000, 1000), 0);
    Check.due("corner", x.point(-1000, -1000), 1);
    Check.due("corner", x.point(-1000, 1000), 2);
    Check.due("corner again", x.point(-1000, 1000), -1);
    Check.due("corner", x.point(1000, -1000), 3);
    Check.due("told", x.told(0), 4);
    Check.due("lines of four", x.told(4), 6);
    Check.due("lengths of four", x.told(6), 6);
    Check.due("fifth", x.point(0, 0), 4);
    Check.due("lines of five", x.told(4), 10);
    Check.due("circle with the fifth", x.circle(4, 0, 2), 21);
    Check.due("three on a line have none", x.circle(4, 0, 1), 0);
    Check.due("sixth", x.point(0, 1), 5);
    Check.due("seventh", x.point(0, 2), 6);
    Check.due("eighth", x.point(0, 3), -1);
    AngleChains y = Check.figure(0, 0, 1, 0, 2, 0);
    Check.due("a hypothesis", Check.fact(y, Check.COLLINEAR, 0, 1, 2), 0);
    Check.due("point with hypotheses", y.point(5, 5), -1);
    y.turn(0, false);
    Check.due("point with hypotheses OFF", y.point(5, 5), -1);
    AngleChains z = Check.figure(0, 0, 1, 0, 2, 0);
    Check.due("false one", Check.fact(z, Check.PERPENDICULAR, 0, 1, 1, 2), -2);
    Check.due("point behind a refused fact", z.point(5, 5), 3);
  }

  private static void draft() {
    AngleChains x = Check.figure(0, 0, 1, 0, 2, 0, 0, 1, 0, 2);
    Check.due("of no point", x.of(5), -1);
    Check.due("of no point", x.of(-1), -1);
    for (int i = 1; i <= 8; i++) {
      Check.due("of", x.of(i % 5), i);
      Check.due("told(3)", x.told(3), i);
    }
    Check.due("ninth", x.of(0), -1);
    Check.due("told(3) behind the ninth", x.told(3), 8);
    Check.due("too many", x.isTrue(Check.COLLINEAR), -1);
    Check.due("empty then", x.told(3), 0);
    int[] kinds = {-1, 7, Integer.MIN_VALUE, Integer.MAX_VALUE};
    for (int kind : kinds) {
      Check.due("no such kind", Check.isTrue(x, kind, 0, 1, 2), -1);
      Check.due("no such kind", Check.fact(x, kind, 0, 1, 2), -1);
      Check.due("no such kind", Check.follows(x, kind, 0, 1, 2), -1);
      Check.due("no such kind", Check.needs(x, kind, 0, 1, 2), -1);
      Check.due("empty then", x.told(3), 0);
    }
    Check.due("1", Check.isTrue(x, Check.COLLINEAR, 0, 1, 2), 1);
    Check.due("empty then", x.told(3), 0);
    Check.due("-2", Check.fact(x, Check.COLLINEAR, 0, 1, 3), -2);
    Check.due("empty then", x.told(3), 0);
    Check.due("0", Check.follows(x, Check.COLLINEAR, 0, 1, 2), 0);
    Check.due("empty then", x.told(3), 0);
    Check.due("0", Check.needs(x, Check.COLLINEAR, 0, 1, 2), 0);
    Check.due("empty then", x.told(3), 0);
    x.of(1);
    x.line(0, 1);
    x.turn(0, true);
    x.need(0);
    x.circle(0, 1, 3);
    x.length(0, 1);
    x.point(9, 9);
    Check.due("other calls leave it", x.told(3), 1);
  }

  private static void different() {
    AngleChains x = Check.figure(0, 0, 2, 0, 1, 0, 1, 1, 1, -1);
    Check.due("0 twice", Check.isTrue(x, Check.COLLINEAR, 0, 1, 0), -1);
    Check.due("3 twice", Check.isTrue(x, Check.CIRCLE, 0, 3, 1, 3), -1);
    Check.due("5 twice", Check.isTrue(x, Check.MIDDLE, 2, 0, 0), -1);
    Check.due("5 twice", Check.isTrue(x, Check.MIDDLE, 0, 0, 1), -1);
    for (int kind = Check.PARALLEL; kind <= Check.EQUAL; kind++) {
      Check.due("first pair", Check.isTrue(x, kind, 0, 0, 1, 2), -1);
      Check.due("second pair", Check.isTrue(x, kind, 0, 1, 2, 2), -1);
    }
    Check.due("same line", Check.isTrue(x, Check.PARALLEL, 0, 1, 0, 1), 1);
    Check.due("same line backwards", Check.isTrue(x, Check.PARALLEL, 0, 1, 1, 0), 1);
    Check.due("with a point in common", Check.isTrue(x, Check.PERPENDICULAR, 0, 3, 3, 1), 1);
    Check.due("same distance", Check.isTrue(x, Check.EQUAL, 0, 1, 1, 0), 1);
    Check.due("6, all one line", Check.isTrue(x, Check.ANGLE, 0, 1, 0, 1, 0, 1, 0, 1), 1);
    for (int i = 0; i < 8; i += 2) {
      int[] f = {0, 1, 0, 1, 0, 1, 0, 1};
      f[i] = 1;
      Check.due("6, pair " + i, Check.isTrue(x, Check.ANGLE, f), -1);
    }
  }

  private static void truth() {
    AngleChains x = Check.figure(-1000, -1000, 1000, 1000, 0, 0, 1000, -1000, -1000, 1000, 999, 1000, 1, 0);
    Check.due("collinear", Check.isTrue(x, Check.COLLINEAR, 0, 1, 2), 1);
    Check.due("nearly", Check.isTrue(x, Check.COLLINEAR, 0, 5, 2), 0);
    Check.due("parallel", Check.isTrue(x, Check.PARALLEL, 0, 4, 1, 3), 1);
    Check.due("parallel, one line", Check.isTrue(x, Check.PARALLEL, 0, 2, 2, 1), 1);
    Check.due("not parallel", Check.isTrue(x, Check.PARALLEL, 0, 1, 3, 4), 0);
    Check.due("perpendicular", Check.isTrue(x, Check.PERPENDICULAR, 0, 1, 3, 4), 1);
    Check.due("nearly", Check.isTrue(x, Check.PERPENDICULAR, 0, 5, 3, 4), 0);
    Check.due("circle", Check.isTrue(x, Check.CIRCLE, 0, 1, 3, 4), 1);
    Check.due("nearly", Check.isTrue(x, Check.CIRCLE, 0, 5, 3, 4), 0);
    Check.due("three on a line", Check.isTrue(x, Check.CIRCLE, 0, 1, 2, 3), 0);
    Check.due("equal", Check.isTrue(x, Check.EQUAL, 0, 1, 3, 4), 1);
    Check.due("nearly", Check.isTrue(x, Check.EQUAL, 0, 5, 3, 4), 0);
    Check.due("middle", Check.isTrue(x, Check.MIDDLE, 2, 0, 1), 1);
    Check.due("middle backwards", Check.isTrue(x, Check.MIDDLE, 2, 4, 3), 1);
    Check.due("not that one", Check.isTrue(x, Check.MIDDLE, 0, 2, 1), 0);
    Check.due("nearly", Check.isTrue(x, Check.MIDDLE, 6, 0, 1), 0);
    Check.due("angle", Check.isTrue(x, Check.ANGLE, 0, 3, 0, 1, 0, 1, 0, 4), 1);
    Check.due("angle the other way", Check.isTrue(x, Check.ANGLE, 0, 3, 0, 1, 0, 4, 0, 1), 0);
    Check.due("right angles either way", Check.isTrue(x, Check.ANGLE, 0, 3, 0, 4, 0, 4, 0, 3), 1);
    Check.due("nearly", Check.isTrue(x, Check.ANGLE, 0, 3, 0, 5, 0, 1, 0, 4), 0);
    AngleChains row = Check.figure(0, 0, 1, 0, 2, 0, 3, 0, 5, 0);
    Check.due("a line is no circle", Check.isTrue(row, Check.CIRCLE, 0, 1, 2, 3), 0);
    Check.due("a line is no circle", Check.fact(row, Check.CIRCLE, 0, 1, 2, 4), -2);
    Check.due("equal on a line", Check.isTrue(row, Check.EQUAL, 0, 2, 3, 4), 1);
  }

  private static void hypotheses() {
    AngleChains x = Check.figure(0, 0, 1, 0, 2, 0, 0, 1);
    Check.due("turn none", x.turn(0, true) ? 1 : 0, 0);
    for (int i = 0; i < 30; i++) {
      Check.due("fact", Check.fact(x, Check.COLLINEAR, 0, 1, 2), i);
      Check.due("told(1)", x.told(1), i + 1);
      Check.due("told(2)", x.told(2), i + 1);
    }
    Check.due("31st", Check.fact(x, Check.COLLINEAR, 0, 1, 2), -1);
    Check.due("31st, not TRUE: the first refusal", Check.fact(x, Check.COLLINEAR, 0, 1, 3), -1);
    Check.due("told(1)", x.told(1), 30);
    Check.due("empty", x.told(3), 0);
    Check.due("turn 29", x.turn(29, false) ? 1 : 0, 1);
    Check.due("turn 29 again", x.turn(29, false) ? 1 : 0, 1);
    Check.due("told(2)", x.told(2), 29);
    Check.due("turn 30", x.turn(30, false) ? 1 : 0, 0);
    Check.due("turn -1", x.turn(-1, false) ? 1 : 0, 0);
    Check.due("turn 32", x.turn(32, false) ? 1 : 0, 0);
    Check.due("told(2)", x.told(2), 29);
    Check.due("needs one", Check.needs(x, Check.COLLINEAR, 0, 1, 2), 1);
    Check.due("the first", x.need(0), 0);
    Check.due("no more", x.need(1), -1);
    for (int i = 0; i < 29; i++) x.turn(i, false);
    Check.due("told(2)", x.told(2), 0);
    Check.due("none is ON", Check.follows(x, Check.COLLINEAR, 0, 1, 2), 0);
    Check.due("turn 29 on", x.turn(29, true) ? 1 : 0, 1);
    Check.due("needs one", Check.needs(x, Check.COLLINEAR, 0, 1, 2), 1);
    Check.due("the last", x.need(0), 29);
  }

  private static void looks() {
    AngleChains x = Check.figure(0, 0, 1, 0, 2, 0, 0, 1);
    Check.due("line", x.line(0, 2), 5);
    Check.due("line backwards", x.line(2, 0), 5);
    Check.due("line of one", x.line(2, 2), 0);
    Check.due("line of none", x.line(0, 4), 0);
    Check.due("circle", x.circle(3, 0, 1), 11);
    Check.due("circle on a line", x.circle(0, 1, 2), 0);
    Check.due("circle of two", x.circle(0, 3, 0), 0);
    Check.due("circle of none", x.circle(0, 3, 4), 0);
    Check.due("length", x.length(3, 1), 15);
    Check.due("length of one", x.length(1, 1), -1);
    Check.due("length of none", x.length(-1, 1), -1);
    Check.fact(x, Check.EQUAL, 2, 1, 3, 0);
    Check.due("least pair", x.length(2, 1), 3);
    Check.due("least pair", x.length(0, 3), 3);
    Check.due("lengths", x.told(6), 5);
    Check.fact(x, Check.EQUAL, 1, 2, 0, 1);
    Check.due("least pair of three", x.length(2, 1), 1);
    Check.due("least pair of three", x.length(0, 3), 1);
  }

  private static void oddNumbers() {
    AngleChains empty = new AngleChains();
    AngleChains full = Check.figure(0, 0, 4, 0, 2, 0, 2, 3, 2, -3, 0, 3, 4, 3);
    Check.fact(full, Check.MIDDLE, 2, 0, 1);
    AngleChains[] both = {empty, full};
    for (AngleChains x : both) {
      for (int odd : ODD) {
        Check.due("point", x.point(odd, 1001), -1);
        Check.due("point", x.point(-1001, odd), -1);
        Check.due("of", x.of(odd), -1);
        Check.due("turn", x.turn(odd, true) ? 1 : 0, 0);
        Check.due("need", x.need(odd), -1);
        Check.due("line", x.line(odd, 0), 0);
        Check.due("line", x.line(0, odd), 0);
        Check.due("circle", x.circle(odd, 0, 3), 0);
        Check.due("circle", x.circle(0, odd, 3), 0);
        Check.due("circle", x.circle(0, 3, odd), 0);
        Check.due("length", x.length(odd, 0), -1);
        Check.due("length", x.length(0, odd), -1);
        if (odd < 0 || odd > 7) Check.due("told", x.told(odd), -1);
        for (int pass = 0; pass < 2; pass++) {
          if (odd > 6 || odd < 0) {
            if (pass == 1) Check.draft(x, 0, 1, 2, 3);
            Check.due("isTrue", x.isTrue(odd), -1);
            if (pass == 1) Check.draft(x, 0, 1, 2, 3);
            Check.due("fact", x.fact(odd), -1);
            if (pass == 1) Check.draft(x, 0, 1, 2, 3);
            Check.due("follows", x.follows(odd), -1);
            if (pass == 1) Check.draft(x, 0, 1, 2, 3);
            Check.due("needs", x.needs(odd), -1);
          }
        }
      }
    }
  }

  public static void main(String[] args) {
    members();
    newObject();
    points();
    draft();
    different();
    truth();
    hypotheses();
    looks();
    oddNumbers();
    Check.end();
  }
}
