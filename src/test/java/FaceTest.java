import java.io.IOException;
import java.lang.reflect.Constructor;
import java.lang.reflect.Field;
import java.lang.reflect.Method;
import java.lang.reflect.Modifier;
import java.util.Set;
import java.util.TreeSet;

/** The public face is the one in the document, no more and no less (LANGUAGE.md, rule 1). */
public final class FaceTest {
    private static final Due due = new Due();

    public static void main(String[] args) throws IOException, IllegalAccessException {
        Doc doc = new Doc();
        constants(doc);
        methods(doc);
        constructor();
        nestedClasses(doc);
        due.end();
    }

    private static void sameSet(String what, Set<String> got, Set<String> want) {
        due.holds(what + " are " + want + ", not " + got, got.equals(want));
    }

    private static void constants(Doc doc) throws IllegalAccessException {
        due.same("BAD", SelfChecks.BAD, -1);
        due.same("NO", SelfChecks.NO, -2);
        due.same("FULL", SelfChecks.FULL, -3);
        due.same("NONE", SelfChecks.NONE, -4);
        Set<String> got = new TreeSet<>();
        for (Field field : SelfChecks.class.getDeclaredFields()) {
            if (Modifier.isPrivate(field.getModifiers())) {
                continue;
            }
            boolean isConstant = field.toString().startsWith("public static final int SelfChecks.");
            due.holds(field + " is a constant", isConstant);
            if (isConstant) {
                got.add(field.getName() + " = " + field.getInt(null));
            }
        }
        due.same("how many constants the document has", doc.constants().size(), 4);
        sameSet("the constants", got, new TreeSet<>(doc.constants()));
    }

    /** A call's name and how many numbers it takes, as "gate 4". */
    private static Set<String> sizes(Doc doc) {
        Set<String> sizes = new TreeSet<>();
        for (String call : doc.calls()) {
            int open = call.indexOf('(');
            boolean takesNone = call.endsWith("()");
            sizes.add(call.substring(0, open) + " " + (takesNone ? 0 : call.split(",").length));
        }
        return sizes;
    }

    private static Set<String> names(Doc doc) {
        Set<String> names = new TreeSet<>();
        for (String call : doc.calls()) {
            names.add(call.substring(0, call.indexOf('(')));
        }
        return names;
    }

    private static void methods(Doc doc) {
        Set<String> publicNames = names(doc);
        Set<String> got = new TreeSet<>();
        for (Method method : SelfChecks.class.getDeclaredMethods()) {
            int modifiers = method.getModifiers();
            if (Modifier.isPrivate(modifiers)) {
                due.holds(method + " bears a name of its own",
                        !publicNames.contains(method.getName()));
                continue;
            }
            due.holds(method + " is a public int", Modifier.isPublic(modifiers)
                    && !Modifier.isStatic(modifiers) && method.getReturnType() == int.class);
            for (Class<?> type : method.getParameterTypes()) {
                due.holds(method + " takes int", type == int.class);
            }
            got.add(method.getName() + " " + method.getParameterCount());
        }
        due.same("how many methods the document has", doc.calls().size(), 24);
        sameSet("the methods", got, sizes(doc));
    }

    private static void constructor() {
        Constructor<?>[] all = SelfChecks.class.getDeclaredConstructors();
        due.same("constructors", all.length, 1);
        due.holds("it is public and takes nothing",
                Modifier.isPublic(all[0].getModifiers()) && all[0].getParameterCount() == 0);
        due.holds("the class is final", Modifier.isFinal(SelfChecks.class.getModifiers()));
        due.holds("the class is public", Modifier.isPublic(SelfChecks.class.getModifiers()));
        due.holds("it has no package", SelfChecks.class.getPackageName().isEmpty());
    }

    private static void nestedClasses(Doc doc) {
        Class<?>[] nested = SelfChecks.class.getDeclaredClasses();
        due.holds("at most twelve classes", nested.length < 12);
        Set<String> publicNames = names(doc);
        for (Class<?> one : nested) {
            int modifiers = one.getModifiers();
            due.holds(one + " is static and not public", Modifier.isStatic(modifiers)
                    && !Modifier.isPublic(modifiers) && !Modifier.isProtected(modifiers));
            due.holds(one + " has no classes inside", one.getDeclaredClasses().length == 0);
            for (Method method : one.getDeclaredMethods()) {
                due.holds(method + " bears a name of its own",
                        !publicNames.contains(method.getName()));
            }
        }
    }
}
