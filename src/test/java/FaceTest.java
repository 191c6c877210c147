import java.lang.reflect.Constructor;
import java.lang.reflect.Field;
import java.lang.reflect.Method;
import java.lang.reflect.Modifier;
import java.util.TreeSet;

/** The part "The public face": each member of the document, and no other that is not private. */
public final class FaceTest {
  private static final String[] FACE = {
    "public AngleChains()",
    "public boolean AngleChains.turn(int,boolean)",
    "public int AngleChains.circle(int,int,int)",
    "public int AngleChains.fact(int)",
    "public int AngleChains.follows(int)",
    "public int AngleChains.isTrue(int)",
    "public int AngleChains.length(int,int)",
    "public int AngleChains.line(int,int)",
    "public int AngleChains.need(int)",
    "public int AngleChains.needs(int)",
    "public int AngleChains.of(int)",
    "public int AngleChains.point(int,int)",
    "public int AngleChains.told(int)",
    "public static final int AngleChains.FALSE",
    "public static final int AngleChains.NONE"};

  public static void main(String[] args) {
    Check.sentence("The public face", "public final class AngleChains");
    TreeSet<String> found = new TreeSet<>();
    for (Method m : AngleChains.class.getDeclaredMethods()) if (!Modifier.isPrivate(m.getModifiers())) found.add(m.toString());
    for (Field f : AngleChains.class.getDeclaredFields()) if (!Modifier.isPrivate(f.getModifiers())) found.add(f.toString());
    for (Constructor<?> c : AngleChains.class.getDeclaredConstructors()) found.add(c.toString());
    Check.due("the members", found.toString(), new TreeSet<>(java.util.Arrays.asList(FACE)).toString());
    Check.due("public", Modifier.isPublic(AngleChains.class.getModifiers()), true);
    Check.due("final", Modifier.isFinal(AngleChains.class.getModifiers()), true);

    Check.sentence("The public face", "public static final int NONE = -1");
    Check.due("NONE", AngleChains.NONE, -1);
    Check.sentence("The public face", "public static final int FALSE = -2");
    Check.due("FALSE", AngleChains.FALSE, -2);
    Check.end();
  }
}
