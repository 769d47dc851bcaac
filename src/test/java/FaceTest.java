import java.lang.reflect.Executable;
import java.lang.reflect.Field;
import java.lang.reflect.Member;
import java.lang.reflect.Method;
import java.lang.reflect.Modifier;
import java.util.Arrays;
import java.util.Set;
import java.util.TreeSet;
import java.util.stream.Collectors;

/** The document's public face, and what LANGUAGE.md says of members (its rules 1, 5 and 11). */
final class FaceTest {
    private static final String NSE = "NoSuchElementException";
    private static final String IAE = "IllegalArgumentException";
    private static final String ISE = "IllegalStateException";
    private static final String UOE = "UnsupportedOperationException";
    private static final String AE = "ArithmeticException";
    private static final Checks CHECKS = new Checks("FaceTest");

    public static void main(String[] args) {
        publicMethodsAreTheDocuments();
        onlyTheFaceIsVisible();
        noPrivateMethodBearsAPublicName();
        staticFieldsAreFinal();
        methodsTakeSevenAtMost();
        CHECKS.end();
    }

    private static String face(String type, String name, String parameters, String... thrown) {
        return type + " " + name + "(" + parameters + ") " + new TreeSet<>(Arrays.asList(thrown));
    }

    private static Set<String> due() {
        return new TreeSet<>(Arrays.asList(
            face("int", "place", "int", IAE, UOE),
            face("void", "stock", "int, int, int", NSE, IAE),
            face("void", "cycle", "int, int, int", IAE),
            face("void", "right", "int, int", IAE),
            face("void", "setting", "int", IAE),
            face("void", "day", "int", IAE, ISE),
            face("int", "move", "int, int, int, int", NSE, IAE, ISE, UOE),
            face("void", "end", "int", NSE, ISE),
            face("int", "moves", "int", NSE),
            face("int", "round", "int, int, long", IAE, ISE, UOE),
            face("int", "freeze", "int", NSE, ISE),
            face("int", "found", "int, int, int, int, int", NSE, IAE),
            face("boolean", "second", "int, int, int", NSE, IAE, ISE),
            face("int", "close", "int", NSE, ISE),
            face("int", "differ", "int, int, int", NSE, IAE),
            face("boolean", "correct", "int, int, int", NSE, IAE, ISE),
            face("int", "share", "int", IAE, AE),
            face("int", "last", "int", NSE),
            face("int", "due", "int", IAE),
            face("int", "booked", "int, int", NSE, IAE),
            face("int", "told", "int, int", NSE, IAE),
            face("int", "count", "int")));
    }

    private static String names(Class<?>[] types) {
        return Arrays.stream(types).map(Class::getSimpleName).collect(Collectors.joining(", "));
    }

    private static void publicMethodsAreTheDocuments() {
        Set<String> got = new TreeSet<>();
        for (Method m : CountRounds.class.getDeclaredMethods()) {
            if (Modifier.isPublic(m.getModifiers())) {
                String[] thrown = Arrays.stream(m.getExceptionTypes()).map(Class::getSimpleName).toArray(String[]::new);
                got.add(face(m.getReturnType().getSimpleName(), m.getName(), names(m.getParameterTypes()), thrown));
            }
        }
        CHECKS.holds("the face, which is " + got, got.equals(due()));
        CHECKS.holds("public and final", (CountRounds.class.getModifiers() & (Modifier.PUBLIC | Modifier.FINAL))
                == (Modifier.PUBLIC | Modifier.FINAL));
        CHECKS.same("constructors", CountRounds.class.getConstructors().length, 1);
        CHECKS.same("its parameters", CountRounds.class.getConstructors()[0].getParameterCount(), 0);
    }

    private static void isPrivate(Member member) {
        CHECKS.holds("private: " + member, Modifier.isPrivate(member.getModifiers()));
    }

    private static void onlyTheFaceIsVisible() {
        for (Method m : CountRounds.class.getDeclaredMethods()) {
            if (!Modifier.isPublic(m.getModifiers())) {
                isPrivate(m);
            }
        }
        for (Field f : CountRounds.class.getDeclaredFields()) {
            isPrivate(f);
        }
        for (Class<?> inside : CountRounds.class.getDeclaredClasses()) {
            CHECKS.holds("static: " + inside, Modifier.isStatic(inside.getModifiers()));
            CHECKS.holds("not visible: " + inside,
                    (inside.getModifiers() & (Modifier.PUBLIC | Modifier.PROTECTED)) == 0);
        }
    }

    private static void noPrivateMethodBearsAPublicName() {
        Set<String> names = due().stream().map(f -> f.substring(f.indexOf(' ') + 1, f.indexOf('(')))
                .collect(Collectors.toCollection(TreeSet::new));
        for (Method m : CountRounds.class.getDeclaredMethods()) {
            CHECKS.holds("a name of its own: " + m, Modifier.isPublic(m.getModifiers()) || !names.contains(m.getName()));
        }
        for (Class<?> inside : CountRounds.class.getDeclaredClasses()) {
            for (Method m : inside.getDeclaredMethods()) {
                CHECKS.holds("a name of its own: " + m, !names.contains(m.getName()));
            }
        }
    }

    private static void staticFieldsAreFinal() {
        for (Field f : CountRounds.class.getDeclaredFields()) {
            CHECKS.holds("final if static: " + f,
                    !Modifier.isStatic(f.getModifiers()) || Modifier.isFinal(f.getModifiers()));
        }
    }

    private static void methodsTakeSevenAtMost() {
        for (Executable m : CountRounds.class.getDeclaredMethods()) {
            CHECKS.holds("at most seven parameters: " + m, m.getParameterCount() <= 7);
        }
        CHECKS.holds("at most twelve classes", CountRounds.class.getDeclaredClasses().length < 12);
    }
}
