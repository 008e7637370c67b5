import java.lang.reflect.Constructor;
import java.lang.reflect.Field;
import java.lang.reflect.Method;
import java.lang.reflect.Modifier;
import java.util.ArrayList;
import java.util.Arrays;
import java.util.Collections;
import java.util.List;
import java.util.Set;
import java.util.TreeSet;

/** The class has the document's face, and no other member that can be seen from outside. */
public final class FaceTest {
    private static final String ARGUMENT = " throws IllegalArgumentException";
    private static final String STATE = " throws IllegalStateException";
    private static final String BOTH = " throws IllegalArgumentException, IllegalStateException";
    private static final List<String> FACE = Arrays.asList(
        "void clear()", "int node(int, long)" + BOTH, "int bytes(long, int)" + BOTH,
        "boolean more(long, int)", "boolean drop()", "boolean twice()", "int split()", "int write()",
        "void wipe()", "boolean give(long, int)", "boolean cut(int)", "void turn()", "int read()",
        "int of(int, int)", "long number(int)" + ARGUMENT, "int byteAt(int, int)",
        "boolean same()" + STATE, "int output(int)", "int look(int)");

    public static void main(String[] args) {
        classItself();
        methods();
        fields();
        constructors();
        classesInside();
        Check.end();
    }

    private static void classItself() {
        int modifiers = TermCodec.class.getModifiers();
        Check.due("the class is public", Modifier.isPublic(modifiers), true);
        Check.due("the class is final", Modifier.isFinal(modifiers), true);
    }

    private static void methods() {
        List<String> seen = new ArrayList<>();
        for (Method m : TermCodec.class.getDeclaredMethods()) {
            if (Modifier.isPrivate(m.getModifiers())) {
                continue;
            }
            Check.due("public and not static: " + m.getName(),
                Modifier.isPublic(m.getModifiers()) && !Modifier.isStatic(m.getModifiers()), true);
            seen.add(m.getReturnType() + " " + m.getName() + "(" + names(m.getParameterTypes()) + ")"
                + (m.getExceptionTypes().length == 0 ? "" : " throws " + names(m.getExceptionTypes())));
        }
        List<String> due = new ArrayList<>(FACE);
        Collections.sort(seen);
        Collections.sort(due);
        Check.due("methods", seen.toString(), due.toString());
    }

    private static String names(Class<?>[] types) {
        StringBuilder text = new StringBuilder();
        for (Class<?> type : types) {
            text.append(text.length() == 0 ? "" : ", ").append(type.getSimpleName());
        }
        return text.toString();
    }

    private static void fields() {
        for (Field f : TermCodec.class.getDeclaredFields()) {
            int modifiers = f.getModifiers();
            Check.due("private or NONE: " + f.getName(),
                f.getName().equals("NONE") ? Modifier.isPublic(modifiers) : Modifier.isPrivate(modifiers), true);
            Check.due("final: " + f.getName(), Modifier.isFinal(modifiers), true);
        }
    }

    private static void constructors() {
        Constructor<?>[] all = TermCodec.class.getDeclaredConstructors();
        Check.due("constructors", all.length, 1);
        Check.due("the constructor's parameters", all[0].getParameterCount(), 0);
        Check.due("the constructor is public", Modifier.isPublic(all[0].getModifiers()), true);
    }

    private static void classesInside() {
        Set<String> face = new TreeSet<>();
        for (Method m : TermCodec.class.getMethods()) {
            face.add(m.getName());
        }
        for (Class<?> inside : TermCodec.class.getDeclaredClasses()) {
            int modifiers = inside.getModifiers();
            Check.due("static: " + inside, Modifier.isStatic(modifiers), true);
            Check.due("not seen from outside: " + inside,
                Modifier.isPublic(modifiers) || Modifier.isProtected(modifiers), false);
            for (Method m : inside.getDeclaredMethods()) {
                Check.due("a name of the face: " + m, face.contains(m.getName()), false);
            }
            for (Field f : inside.getDeclaredFields()) {
                Check.due("a static field is final: " + f,
                    Modifier.isStatic(f.getModifiers()) && !Modifier.isFinal(f.getModifiers()), false);
            }
        }
    }
}
