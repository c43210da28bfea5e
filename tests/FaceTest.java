import java.lang.reflect.Constructor;
import java.lang.reflect.Field;
import java.lang.reflect.Method;
import java.lang.reflect.Modifier;
import java.util.Set;
import java.util.TreeSet;

/** The class's face: every constant, constructor and method of the document, and nothing more. */
public final class FaceTest {
    private static final String[] INT_METHODS = {"row 2", "lay 3", "at 2", "tear 1", "copy 5", "mean 1", "text 2",
        "put 3", "fault 1", "hut 1", "guest 2", "mark 2", "follows 1", "moved 2", "send 2", "say 1", "wood 0",
        "undo 1", "keep 1", "on 1", "both 0", "can 0", "talk 1", "soonest 2", "ways 2", "match 0", "sets 0",
        "change 1", "kinds 2", "test 2", "duel 1", "odds 3", "mid 2", "lots 2", "asked 0", "count 1", "finding 0",
        "findings 1"};

    public static void main(String[] args) throws IllegalAccessException {
        Due.is("BAD", SnowHut.BAD, -1);
        Due.is("FULL", SnowHut.FULL, -2);
        Due.is("FINDING", SnowHut.FINDING, -3);
        Due.is("STATE", SnowHut.STATE, -4);
        Due.is("SPENT", SnowHut.SPENT, -6);
        Due.is("NONE", SnowHut.NONE, -9);
        Set<String> want = new TreeSet<>();
        for (String method : INT_METHODS) {
            want.add("int " + method);
        }
        want.add("long upper 0");
        want.add("long lower 0");
        want.add("long digest 0");
        for (String name : new String[] {"BAD", "FULL", "FINDING", "STATE", "SPENT", "NONE"}) {
            want.add("constant " + name);
        }
        want.add("constructor 0");
        Due.is("the face " + shown(), shown().equals(want) ? 1 : 0, 1);
        Due.is("final", Modifier.isFinal(SnowHut.class.getModifiers()) ? 1 : 0, 1);
        noPrivateMethodIsNamedAsAPublicOne();
        classesInsideAreStatic();
        Due.end("FaceTest");
    }

    private static Set<String> shown() {
        Set<String> shown = new TreeSet<>();
        for (Method m : SnowHut.class.getDeclaredMethods()) {
            if (!Modifier.isPrivate(m.getModifiers()) && !m.isSynthetic()) {
                boolean plain = m.getModifiers() == Modifier.PUBLIC;
                for (Class<?> type : m.getParameterTypes()) {
                    plain &= type == int.class;
                }
                shown.add((plain ? "" : "odd ") + m.getReturnType() + " " + m.getName() + " " + m.getParameterCount());
            }
        }
        for (Field f : SnowHut.class.getDeclaredFields()) {
            if (!Modifier.isPrivate(f.getModifiers()) && !f.isSynthetic()) {
                boolean constant = f.getModifiers() == (Modifier.PUBLIC | Modifier.STATIC | Modifier.FINAL);
                shown.add((constant && f.getType() == int.class ? "constant " : "field ") + f.getName());
            }
        }
        for (Constructor<?> c : SnowHut.class.getDeclaredConstructors()) {
            shown.add((Modifier.isPublic(c.getModifiers()) ? "" : "hidden ") + "constructor " + c.getParameterCount());
        }
        return shown;
    }

    private static void noPrivateMethodIsNamedAsAPublicOne() {
        Set<String> names = new TreeSet<>();
        for (Method m : SnowHut.class.getDeclaredMethods()) {
            if (Modifier.isPublic(m.getModifiers())) {
                names.add(m.getName());
            }
        }
        check(SnowHut.class, names);
        for (Class<?> inside : SnowHut.class.getDeclaredClasses()) {
            check(inside, names);
        }
    }

    private static void check(Class<?> type, Set<String> names) {
        for (Method m : type.getDeclaredMethods()) {
            boolean alike = Modifier.isPrivate(m.getModifiers()) && names.contains(m.getName());
            Due.is(type.getName() + "." + m.getName() + " is named as a public method", alike ? 1 : 0, 0);
        }
    }

    private static void classesInsideAreStatic() {
        for (Class<?> inside : SnowHut.class.getDeclaredClasses()) {
            Due.is(inside.getName() + " is static", Modifier.isStatic(inside.getModifiers()) ? 1 : 0, 1);
        }
    }
}
