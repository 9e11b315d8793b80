import java.lang.reflect.Constructor;
import java.lang.reflect.Field;
import java.lang.reflect.Method;
import java.lang.reflect.Modifier;
import java.util.ArrayList;
import java.util.Collections;
import java.util.HashSet;
import java.util.List;
import java.util.Set;

/** The public face is that of the document, and rule 1 of LANGUAGE.md holds for the rest. */
public final class FaceTest {
    private static final Checks CHECKS = new Checks("FaceTest");
    private static final String INDEX = " IndexOutOfBoundsException";
    private static final String ARGUMENT = " IllegalArgumentException";
    private static final String STATE = " IllegalStateException";
    private static final List<String> FACE = List.of(
            "int gate()" + STATE,
            "int road(int, int, int, int)" + INDEX + ARGUMENT + STATE,
            "void rate(int, int, int)" + ARGUMENT,
            "int most(int)" + ARGUMENT,
            "void plate(int, int, int)" + INDEX + ARGUMENT,
            "long top(int, int)" + INDEX + ARGUMENT,
            "int exempt(int, int, int)" + INDEX + ARGUMENT + STATE,
            "int read(int, int, int)" + INDEX + ARGUMENT + STATE,
            "void strike(int)" + INDEX + STATE,
            "int pass(int)" + ARGUMENT + STATE,
            "long bill()",
            "int distance(int, int)" + INDEX,
            "int way(int, int, int)" + INDEX,
            "int journeys(int)" + INDEX,
            "int journey(int, int, int)" + INDEX + ARGUMENT,
            "int ofReading(int, int)" + INDEX + ARGUMENT,
            "long due(int)" + INDEX,
            "long billed(int)" + INDEX,
            "long wallet(int)" + INDEX,
            "long own(int)" + INDEX,
            "long share(int, boolean)" + INDEX);

    /** The calls of the document, each with what it returns, takes and throws. */
    static List<String> face() {
        return FACE;
    }

    public static void main(String[] args) {
        Class<?> net = Tollweave.class;
        int modifiers = net.getModifiers();
        CHECKS.isTrue("the class is public and final",
                Modifier.isPublic(modifiers) && Modifier.isFinal(modifiers));
        methods(net);
        fields(net);
        Constructor<?>[] constructors = net.getDeclaredConstructors();
        CHECKS.isTrue("one public constructor", constructors.length == 1
                && Modifier.isPublic(constructors[0].getModifiers())
                && constructors[0].getParameterCount() == 0);
        for (Class<?> inside : net.getDeclaredClasses()) {
            CHECKS.isTrue(inside + " is static and not public",
                    Modifier.isStatic(inside.getModifiers())
                            && !Modifier.isPublic(inside.getModifiers())
                            && !Modifier.isProtected(inside.getModifiers()));
        }
        CHECKS.end();
    }

    private static void methods(Class<?> net) {
        List<String> found = new ArrayList<>();
        Set<String> open = new HashSet<>();
        Set<String> hidden = new HashSet<>();
        for (Method method : net.getDeclaredMethods()) {
            if (Modifier.isPrivate(method.getModifiers())) {
                hidden.add(method.getName());
            } else {
                found.add(told(method));
                open.add(method.getName());
                CHECKS.isTrue(method + " is public and of the object",
                        Modifier.isPublic(method.getModifiers())
                                && !Modifier.isStatic(method.getModifiers()));
            }
        }
        List<String> due = new ArrayList<>(FACE);
        Collections.sort(due);
        Collections.sort(found);
        CHECKS.isTrue("the face is " + found + ", due is " + due, found.equals(due));
        CHECKS.isTrue("no private method bears the name of a public one",
                Collections.disjoint(open, hidden));
    }

    private static String told(Method method) {
        StringBuilder text = new StringBuilder();
        text.append(method.getReturnType()).append(' ').append(method.getName()).append('(');
        String comma = "";
        for (Class<?> parameter : method.getParameterTypes()) {
            text.append(comma).append(parameter);
            comma = ", ";
        }
        text.append(')');
        for (Class<?> thrown : method.getExceptionTypes()) {
            text.append(' ').append(thrown.getSimpleName());
        }
        return text.toString();
    }

    private static void fields(Class<?> net) {
        for (Field field : net.getDeclaredFields()) {
            int modifiers = field.getModifiers();
            if (field.getName().equals("NONE")) {
                CHECKS.isTrue("NONE is a public constant", Modifier.isPublic(modifiers)
                        && Modifier.isStatic(modifiers) && Modifier.isFinal(modifiers)
                        && field.getType() == int.class);
            } else {
                CHECKS.isTrue(field + " is private", Modifier.isPrivate(modifiers));
            }
            CHECKS.isTrue(field + " is final if it is static",
                    !Modifier.isStatic(modifiers) || Modifier.isFinal(modifiers));
        }
    }
}
