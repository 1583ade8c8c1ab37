import java.lang.reflect.Constructor;
import java.lang.reflect.Field;
import java.lang.reflect.Method;
import java.lang.reflect.Modifier;
import java.util.ArrayList;
import java.util.List;
import java.util.TreeSet;

/** The public face: that the class has all that the document shows of it, and shows nothing else. */
public final class PatternLoomFace extends LoomTest {
    private static final List<String> METHODS = List.of(
        "dye(int,int,int)", "pattern(int,int,int,int)", "name(int,int)", "ask(int,int,int)",
        "weave(int,int,int,int,int)", "cloth(int)", "changes()", "most()", "why()", "count(int)");

    public static void main(String[] args) {
        theClass();
        theConstructor();
        theMethods();
        theConstants();
        theClassesInside();
        end("the face is the document's");
    }

    private static void theClass() {
        part = "public final class PatternLoom";
        Class<?> loom = PatternLoom.class;
        due("its modifiers", Modifier.toString(loom.getModifiers()), "public final");
        due("its package", loom.getPackageName(), "");
        due("the class above it", loom.getSuperclass().getName(), "java.lang.Object");
        due("its interfaces", loom.getInterfaces().length, 0);
    }

    private static void theConstructor() {
        part = "public PatternLoom()";
        Constructor<?>[] all = PatternLoom.class.getDeclaredConstructors();
        due("constructors", all.length, 1);
        due("the one", all[0].toGenericString(), "public PatternLoom()");
    }

    private static void theMethods() {
        part = "the public methods";
        TreeSet<String> open = new TreeSet<>();
        TreeSet<String> openNames = new TreeSet<>();
        List<Method> hidden = new ArrayList<>();
        for (Method m : PatternLoom.class.getDeclaredMethods()) {
            if (Modifier.isPrivate(m.getModifiers())) {
                hidden.add(m);
            } else {
                open.add(m.toGenericString());
                openNames.add(m.getName());
            }
        }
        TreeSet<String> want = new TreeSet<>();
        for (String method : METHODS) {
            want.add("public int PatternLoom." + method);
        }
        due("all that are not private", open.toString(), want.toString());
        for (Method m : hidden) {
            due(m.getName() + "() is no public method's name", openNames.contains(m.getName()) ? 1 : 0, 0);
        }
    }

    private static void theConstants() {
        part = "public static final int NONE = -1, OUTSIDE = -2, UNKNOWN = -3, FULL = -4";
        TreeSet<String> open = new TreeSet<>();
        for (Field f : PatternLoom.class.getDeclaredFields()) {
            if (!Modifier.isPrivate(f.getModifiers())) {
                open.add(f.toGenericString());
            } else if (Modifier.isStatic(f.getModifiers())) {
                due(f.getName() + " is final", Modifier.isFinal(f.getModifiers()) ? 1 : 0, 1);
            }
        }
        String head = "public static final int PatternLoom.";
        List<String> constants = List.of(head + "NONE", head + "OUTSIDE", head + "UNKNOWN", head + "FULL");
        due("all that are not private", open.toString(), new TreeSet<>(constants).toString());
        for (int answer = -4; answer <= -1; answer++) {
            String want = List.of("FULL", "UNKNOWN", "OUTSIDE", "NONE").get(answer + 4);
            due("the constant of " + answer, constant(answer), want);
        }
    }

    /** Only a constant that the compiler knows the number of may stand behind 'case'. */
    private static String constant(int answer) {
        switch (answer) {
            case PatternLoom.NONE:
                return "NONE";
            case PatternLoom.OUTSIDE:
                return "OUTSIDE";
            case PatternLoom.UNKNOWN:
                return "UNKNOWN";
            case PatternLoom.FULL:
                return "FULL";
            default:
                return "none";
        }
    }

    private static void theClassesInside() {
        part = "the classes inside are static, and private or package-visible";
        for (Class<?> inside : PatternLoom.class.getDeclaredClasses()) {
            int m = inside.getModifiers();
            due(inside.getName() + " is static", Modifier.isStatic(m) ? 1 : 0, 1);
            due(inside.getName() + " is open", Modifier.isPublic(m) || Modifier.isProtected(m) ? 1 : 0, 0);
        }
    }
}
