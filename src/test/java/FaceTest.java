import java.lang.reflect.Constructor;
import java.lang.reflect.Field;
import java.lang.reflect.Method;
import java.lang.reflect.Modifier;
import java.util.TreeSet;

/** The public face, member for member, and nothing beside it that can be seen from outside. */
public final class FaceTest {
    public static void main(String[] args) {
        Check check = new Check("face");
        TreeSet<String> seen = new TreeSet<>();
        for (Method m : SmallArchives.class.getDeclaredMethods()) {
            if (!Modifier.isPrivate(m.getModifiers()) && !m.isSynthetic()) {
                seen.add(m.toString());
            }
        }
        for (Field f : SmallArchives.class.getDeclaredFields()) {
            if (!Modifier.isPrivate(f.getModifiers()) && !f.isSynthetic()) {
                seen.add(f.toString());
            }
        }
        for (Constructor<?> c : SmallArchives.class.getDeclaredConstructors()) {
            seen.add(c.toString());
        }
        TreeSet<String> wanted = new TreeSet<>();
        for (String constant : Check.list("NONE", "OUTSIDE", "NO", "FULL")) {
            wanted.add("public static final int SmallArchives." + constant);
        }
        for (String method : Check.list("file()", "name(int)", "data(int)", "link(int)", "clear()", "write(int)",
                "put(int)", "row(int)", "poke(int,int)", "cut(int)", "read(int)", "place()", "entries()",
                "told(int,int,int)", "got(int,int) throws java.lang.IndexOutOfBoundsException", "same()")) {
            wanted.add("public int SmallArchives." + method);
        }
        wanted.add("public SmallArchives()");
        check.dueText("the members", seen.toString(), wanted.toString());
        check.due("final", Modifier.isFinal(SmallArchives.class.getModifiers()) ? 1 : 0, 1);
        check.due("NONE", SmallArchives.NONE, -1);
        check.due("OUTSIDE", SmallArchives.OUTSIDE, -2);
        check.due("NO", SmallArchives.NO, -3);
        check.due("FULL", SmallArchives.FULL, -4);
        check.end();
    }
}
