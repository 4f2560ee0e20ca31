import java.lang.reflect.Constructor;
import java.lang.reflect.Field;
import java.lang.reflect.Method;
import java.lang.reflect.Modifier;
import java.util.TreeSet;

/** The public face is the document's, no more and no less (LANGUAGE.md, rule 1). */
public final class FaceTest {
    private static final Due due = new Due();
    private static final String[] METHODS = {
        "write 1", "wipe 0", "fault 0", "lay 0", "gate 4", "add 3", "rails 2", "code 2", "build 1",
        "undo 0", "gateOf 2", "wire 2", "out 2", "word 1", "rank 1", "missed 0", "near 0",
        "stuck 2", "exposes 1", "is 1", "stucks 1", "test 1", "both 3", "count 1"};

    public static void main(String[] args) {
        constants();
        methods();
        constructor();
        nestedClasses();
        due.end();
    }

    private static void constants() {
        due.same("BAD", SelfChecks.BAD, -1);
        due.same("NO", SelfChecks.NO, -2);
        due.same("FULL", SelfChecks.FULL, -3);
        due.same("NONE", SelfChecks.NONE, -4);
        int seen = 0;
        for (Field field : SelfChecks.class.getDeclaredFields()) {
            if (Modifier.isPrivate(field.getModifiers())) {
                continue;
            }
            seen++;
            due.holds(field + " is a constant",
                    field.toString().startsWith("public static final int SelfChecks."));
        }
        due.same("how many constants", seen, 4);
    }

    private static void methods() {
        TreeSet<String> want = new TreeSet<>(java.util.List.of(METHODS));
        TreeSet<String> publicNames = new TreeSet<>();
        for (String method : METHODS) {
            publicNames.add(method.split(" ")[0]);
        }
        TreeSet<String> got = new TreeSet<>();
        for (Method method : SelfChecks.class.getDeclaredMethods()) {
            int modifiers = method.getModifiers();
            if (Modifier.isPrivate(modifiers)) {
                due.holds(method + " bears a name of its own",
                        !publicNames.contains(method.getName()));
                continue;
            }
            due.holds(method + " is a public int", Modifier.isPublic(modifiers)
                    && !Modifier.isStatic(modifiers) && method.getReturnType() == int.class);
            for (Class<?> type : method.getParameterTypes()) {
                due.holds(method + " takes int", type == int.class);
            }
            got.add(method.getName() + " " + method.getParameterCount());
        }
        due.holds("the methods are " + want + ", not " + got, want.equals(got));
    }

    private static void constructor() {
        Constructor<?>[] all = SelfChecks.class.getDeclaredConstructors();
        due.same("constructors", all.length, 1);
        due.holds("it is public and takes nothing",
                Modifier.isPublic(all[0].getModifiers()) && all[0].getParameterCount() == 0);
        due.holds("the class is final", Modifier.isFinal(SelfChecks.class.getModifiers()));
    }

    private static void nestedClasses() {
        Class<?>[] nested = SelfChecks.class.getDeclaredClasses();
        due.holds("at most twelve classes", nested.length < 12);
        for (Class<?> one : nested) {
            int modifiers = one.getModifiers();
            due.holds(one + " is static and not public",
                    Modifier.isStatic(modifiers) && !Modifier.isPublic(modifiers));
            due.holds(one + " has at most twenty fields", one.getDeclaredFields().length <= 20);
        }
    }
}
