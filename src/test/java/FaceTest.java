import java.lang.reflect.Constructor;
import java.lang.reflect.Field;
import java.lang.reflect.Method;
import java.lang.reflect.Modifier;
import java.util.Arrays;
import java.util.Set;
import java.util.TreeSet;

/** The public face, and what LANGUAGE.md, rule 1, says of it. */
public final class FaceTest {
    public static void main(String[] args) {
        Checks.run(FaceTest.class);
    }

    static void termsTheFaceIsTheDocuments() {
        Set<String> members = new TreeSet<>();
        for (Method m : TimedRuns.class.getDeclaredMethods()) {
            if (!Modifier.isPrivate(m.getModifiers()) && !m.isSynthetic()) {
                members.add(Modifier.toString(m.getModifiers()) + " " + told(m));
            }
        }
        for (Field f : TimedRuns.class.getDeclaredFields()) {
            if (!Modifier.isPrivate(f.getModifiers())) {
                members.add(Modifier.toString(f.getModifiers()) + " " + f.getType() + " " + f.getName());
            }
        }
        for (Constructor<?> c : TimedRuns.class.getDeclaredConstructors()) {
            members.add(Modifier.toString(c.getModifiers()) + " new " + told(c.getParameterTypes()));
        }
        Set<String> want = new TreeSet<>(Arrays.asList(
            "public new ()",
            "public static final int NONE",
            "public boolean type(long)",
            "public int job(int) UnsupportedOperationException IllegalArgumentException",
            "public int fault()",
            "public void erase()",
            "public int task(int, int, int, int) IndexOutOfBoundsException UnsupportedOperationException"
                + " IllegalArgumentException",
            "public boolean slots(int)",
            "public boolean holds(int, int) IndexOutOfBoundsException IllegalArgumentException",
            "public int next(int, int) IndexOutOfBoundsException IllegalArgumentException",
            "public int part(int, int) IllegalArgumentException",
            "public int pass(int) IllegalArgumentException IllegalStateException",
            "public void set(int) IllegalStateException IllegalArgumentException",
            "public int end(int, int, boolean) IndexOutOfBoundsException IllegalStateException",
            "public int down(boolean) IllegalStateException",
            "public int now()",
            "public int state(int, int)",
            "public int count(int, int)",
            "public int entries()",
            "public int entry(int, int) IndexOutOfBoundsException"));
        Checks.due("the face", members, want);
        Checks.due("the class is public and final", TimedRuns.class.getModifiers(), Modifier.PUBLIC | Modifier.FINAL);
        Checks.due("NONE", TimedRuns.NONE, -1);
    }

    private static String told(Method m) {
        StringBuilder all = new StringBuilder();
        all.append(m.getReturnType()).append(' ').append(m.getName()).append(told(m.getParameterTypes()));
        for (Class<?> e : m.getExceptionTypes()) {
            all.append(' ').append(e.getSimpleName());
        }
        return all.toString();
    }

    private static String told(Class<?>[] types) {
        StringBuilder all = new StringBuilder("(");
        for (Class<?> t : types) {
            all.append(all.length() > 1 ? ", " : "").append(t);
        }
        return all.append(")").toString();
    }

    static void termsNoPrivateMethodBearsAPublicName() {
        Set<String> open = new TreeSet<>();
        for (Method m : TimedRuns.class.getDeclaredMethods()) {
            if (Modifier.isPublic(m.getModifiers())) {
                open.add(m.getName());
            }
        }
        for (Method m : TimedRuns.class.getDeclaredMethods()) {
            Checks.due("the private " + m.getName() + " bears a public name",
                Modifier.isPrivate(m.getModifiers()) && open.contains(m.getName()), false);
        }
        for (Class<?> inner : TimedRuns.class.getDeclaredClasses()) {
            Checks.due(inner + " is static", Modifier.isStatic(inner.getModifiers()), true);
            for (Method m : inner.getDeclaredMethods()) {
                Checks.due(inner + "." + m.getName() + " bears a public name", open.contains(m.getName()), false);
            }
        }
    }
}
