import java.lang.reflect.Constructor;
import java.lang.reflect.Field;
import java.lang.reflect.Method;
import java.lang.reflect.Modifier;
import java.util.Arrays;
import java.util.HashSet;
import java.util.Set;
import java.util.TreeSet;

/** The public face of the document, all of it and nothing else (LANGUAGE.md, rules 1 and 5). */
public final class FaceTest {
    private static final Checks CHECKS = new Checks("FaceTest");

    private static final String[] METHODS = {
        "public boolean PointerClones.kind(int,int)",
        "public boolean PointerClones.accept(int,int)",
        "public int PointerClones.make(int,int)",
        "public int PointerClones.copy(int,int)",
        "public int PointerClones.store(int,int,int)",
        "public int PointerClones.load(int,int,int)",
        "public int PointerClones.call(int,int)",
        "public int PointerClones.pass(int,int,int,boolean)",
        "public int PointerClones.solve()",
        "public int PointerClones.points(int,int)",
        "public int PointerClones.holds(int,int)",
        "public int PointerClones.contexts(int)",
        "public int PointerClones.context(int,int)",
        "public boolean PointerClones.alias(int,int,int,int)",
        "public boolean PointerClones.order(int)",
        "public int PointerClones.nodes(int)",
        "public int PointerClones.size(int)",
    };
    private static final String[] FIELDS = {
        "public static final int PointerClones.BAD",
        "public static final int PointerClones.FULL",
        "public static final int PointerClones.TOO_MANY",
    };
    private static final String[] CONSTRUCTORS = {"public PointerClones()"};

    public static void main(String[] args) {
        CHECKS.begin("the face");
        CHECKS.due("the class", Modifier.toString(PointerClones.class.getModifiers()), "public final");
        seenMethods();
        seenFields();
        seenConstructors();
        namesOfTheirOwn();
        classesInside();
        CHECKS.end();
    }

    private static String sorted(Set<String> texts) {
        return new TreeSet<>(texts).toString();
    }

    private static String sorted(String[] texts) {
        return sorted(new HashSet<>(Arrays.asList(texts)));
    }

    private static void seenMethods() {
        Set<String> seen = new HashSet<>();
        for (Method method : PointerClones.class.getDeclaredMethods()) {
            if (!Modifier.isPrivate(method.getModifiers())) {
                seen.add(method.toString());
            }
        }
        CHECKS.due("methods", sorted(seen), sorted(METHODS));
    }

    private static void seenFields() {
        Set<String> seen = new HashSet<>();
        for (Field field : PointerClones.class.getDeclaredFields()) {
            if (!Modifier.isPrivate(field.getModifiers())) {
                seen.add(field.toString());
            }
        }
        CHECKS.due("fields", sorted(seen), sorted(FIELDS));
    }

    private static void seenConstructors() {
        Set<String> seen = new HashSet<>();
        for (Constructor<?> constructor : PointerClones.class.getDeclaredConstructors()) {
            seen.add(constructor.toString());
        }
        CHECKS.due("constructors", sorted(seen), sorted(CONSTRUCTORS));
    }

    private static void namesOfTheirOwn() {
        Set<String> open = new HashSet<>();
        for (String method : METHODS) {
            open.add(method.substring(method.indexOf('.') + 1, method.indexOf('(')));
        }
        for (Method method : PointerClones.class.getDeclaredMethods()) {
            if (Modifier.isPrivate(method.getModifiers())) {
                CHECKS.due("private " + method.getName(), open.contains(method.getName()), false);
            }
        }
    }

    private static void classesInside() {
        for (Class<?> inside : PointerClones.class.getDeclaredClasses()) {
            int modifiers = inside.getModifiers();
            CHECKS.due(inside + " is static", Modifier.isStatic(modifiers), true);
            CHECKS.due(inside + " is seen", Modifier.isPublic(modifiers) || Modifier.isProtected(modifiers), false);
            for (Field field : inside.getDeclaredFields()) {
                int of = field.getModifiers();
                CHECKS.due(field + " is static and not final", Modifier.isStatic(of) && !Modifier.isFinal(of), false);
            }
        }
    }
}
