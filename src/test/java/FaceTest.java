import java.lang.reflect.Constructor;
import java.lang.reflect.Field;
import java.lang.reflect.Method;
import java.lang.reflect.Modifier;
import java.util.Arrays;
import java.util.Set;
import java.util.TreeSet;

/** The public face, and promise 1: a new object. */
public final class FaceTest {
    public static void main(String[] args) {
        theFaceIsTheDocuments();
        noPrivateMethodBearsAPublicName();
        aNewObjectIsEmpty();
        objectsAreApart();
        Checks.close();
    }

    private static void theFaceIsTheDocuments() {
        Set<String> members = new TreeSet<>();
        for (Method m : TimedRuns.class.getDeclaredMethods()) {
            if (!Modifier.isPrivate(m.getModifiers()) && !m.isSynthetic()) {
                members.add(Modifier.toString(m.getModifiers()) + " " + told(m));
            }
        }
        for (Field f : TimedRuns.class.getDeclaredFields()) {
            if (!Modifier.isPrivate(f.getModifiers())) {
                members.add(Modifier.toString(f.getModifiers()) + " " + f.getType() + " " + f.getName());
            }
        }
        for (Constructor<?> c : TimedRuns.class.getDeclaredConstructors()) {
            members.add(Modifier.toString(c.getModifiers()) + " new " + told(c.getParameterTypes()));
        }
        Set<String> want = new TreeSet<>(Arrays.asList(
            "public new ()",
            "public static final int NONE",
            "public boolean type(long)",
            "public int job(int) UnsupportedOperationException IllegalArgumentException",
            "public int fault()",
            "public void erase()",
            "public int task(int, int, int, int) IndexOutOfBoundsException UnsupportedOperationException"
                + " IllegalArgumentException",
            "public boolean slots(int)",
            "public boolean holds(int, int) IndexOutOfBoundsException IllegalArgumentException",
            "public int next(int, int) IndexOutOfBoundsException IllegalArgumentException",
            "public int part(int, int) IllegalArgumentException",
            "public int pass(int) IllegalArgumentException IllegalStateException",
            "public void set(int) IllegalStateException IllegalArgumentException",
            "public int end(int, int, boolean) IndexOutOfBoundsException IllegalStateException",
            "public int down(boolean) IllegalStateException",
            "public int now()",
            "public int state(int, int)",
            "public int count(int, int)",
            "public int entries()",
            "public int entry(int, int) IndexOutOfBoundsException"));
        Checks.due("the face", members, want);
        Checks.due("the class is public and final", TimedRuns.class.getModifiers(), Modifier.PUBLIC | Modifier.FINAL);
        Checks.due("NONE", TimedRuns.NONE, -1);
    }

    private static String told(Method m) {
        StringBuilder all = new StringBuilder();
        all.append(m.getReturnType()).append(' ').append(m.getName()).append(told(m.getParameterTypes()));
        for (Class<?> e : m.getExceptionTypes()) {
            all.append(' ').append(e.getSimpleName());
        }
        return all.toString();
    }

    private static String told(Class<?>[] types) {
        StringBuilder all = new StringBuilder("(");
        for (Class<?> t : types) {
            all.append(all.length() > 1 ? ", " : "").append(t);
        }
        return all.append(")").toString();
    }

    /** LANGUAGE.md, rule 1. */
    private static void noPrivateMethodBearsAPublicName() {
        Set<String> open = new TreeSet<>();
        for (Method m : TimedRuns.class.getDeclaredMethods()) {
            if (Modifier.isPublic(m.getModifiers())) {
                open.add(m.getName());
            }
        }
        for (Method m : TimedRuns.class.getDeclaredMethods()) {
            Checks.due("the private " + m.getName() + " bears a public name",
                Modifier.isPrivate(m.getModifiers()) && open.contains(m.getName()), false);
        }
        for (Class<?> inner : TimedRuns.class.getDeclaredClasses()) {
            Checks.due(inner + " is static", Modifier.isStatic(inner.getModifiers()), true);
            for (Method m : inner.getDeclaredMethods()) {
                Checks.due(inner + "." + m.getName() + " bears a public name", open.contains(m.getName()), false);
            }
        }
    }

    private static void aNewObjectIsEmpty() {
        TimedRuns x = new TimedRuns();
        Checks.due("now() at first", x.now(), 0);
        Checks.due("entries() at first", x.entries(), 0);
        Checks.due("fault() at first", x.fault(), -1);
        Checks.due("count(0, 4) at first", x.count(0, 4), 0);
        Checks.due("count(0, 0) at first", x.count(0, 0), -1);
        Checks.due("state(0, 0) at first", x.state(0, 0), -1);
        Checks.thrown("end(0, 0) at first", x, Checks.INDEX, () -> x.end(0, 0, true));
        Checks.thrown("entry(0, 0) at first", x, Checks.INDEX, () -> x.entry(0, 0));
        Checks.thrown("down(false) at first", x, Checks.STATE, () -> x.down(false));
        Checks.due("job() at first", Checks.answer(() -> x.job(0)), Checks.ARGUMENT);
        Checks.due("fault() of the empty text", x.fault(), 0);
        Checks.due("down(true) at first", Checks.answer(() -> x.down(true)), "0");

        TimedRuns two = Checks.withJob("* * * * *");
        for (int t = 0; t < 3; t++) {
            two.task(0, 0, 1, 0);
        }
        Checks.due("two slots at first", two.pass(1), 2);
    }

    private static void objectsAreApart() {
        TimedRuns one = Checks.withJob("* * * * *");
        TimedRuns other = new TimedRuns();
        one.pass(3);
        one.type(Checks.row("abc"));
        Checks.due("now() of another", other.now(), 0);
        Checks.due("entries() of another", other.entries(), 0);
        Checks.due("count(0, 3) of another", other.count(0, 3), -1);
        Checks.due("job of another", Checks.answer(() -> Checks.job(other, "1 * * * *", 0)), "0");
    }
}
