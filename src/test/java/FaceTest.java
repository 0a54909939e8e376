import java.lang.reflect.Constructor;
import java.lang.reflect.Field;
import java.lang.reflect.Method;
import java.lang.reflect.Modifier;
import java.util.Set;
import java.util.TreeSet;

/** The public face, as the document writes it, and rule 1 of LANGUAGE.md: no member beside it but private ones. */
public final class FaceTest {
    private static final String OUT = "IndexOutOfBoundsException";
    private static final String WRONG = "IllegalArgumentException";
    private static final String NOT = "IllegalStateException";
    private static final String[] FACE = {
        "int feed(int, int, int, int, int)",
        "boolean end(int)",
        "int coast() " + WRONG + " UnsupportedOperationException",
        "int law() " + WRONG,
        "int fault()",
        "int woman(int, int) " + OUT + " NoSuchElementException",
        "int thing(int, int) " + OUT + " NoSuchElementException",
        "int gain(int, int) " + OUT,
        "int flows(int, int, int) " + OUT,
        "int lend(int, int) " + OUT + " " + WRONG + " " + NOT,
        "int wed(int, int) " + OUT + " " + NOT,
        "int pawn(int) " + OUT + " " + NOT,
        "int redeem(int) " + OUT + " " + NOT,
        "int cut(int) " + OUT + " " + NOT,
        "boolean widow(int, boolean) " + OUT,
        "int days(int) " + WRONG,
        "int best(int) " + OUT,
        "int order(int, int, int) " + OUT + " " + WRONG,
        "int lowest(int, int) " + OUT + " " + WRONG,
        "int reach(int, int, int, int) " + OUT + " " + WRONG,
        "int chain(int) " + OUT,
        "int since(int, int) " + OUT + " " + WRONG,
        "int whose() " + WRONG,
        "int next() " + WRONG,
        "int match(int, int) " + WRONG,
        "int rests(int, int, int) " + OUT + " " + WRONG,
        "int sells(int) " + WRONG,
        "int dearest()",
        "int unlucky()",
        "int luckiest(int) " + OUT,
        "boolean ring(int) " + OUT,
        "int runs(int, int) " + OUT + " " + WRONG,
        "int spent(int) " + OUT,
        "int oldest()",
        "int stuck()",
        "int pawned()",
        "int blue()",
        "int alike()",
        "int share(int, int) " + OUT,
        "int odds()",
        "int trial(int, boolean) " + WRONG,
        "int span(int, boolean) " + WRONG,
        "int led(int, boolean) " + OUT,
        "int log(int, int) NoSuchElementException",
        "int seed(int)",
        "boolean undo()",
        "void image()",
        "boolean back()",
        "int count(int)",
    };

    public static void main(String[] args) {
        methods();
        constantsAndConstructor();
        classesInside();
        Check.end();
    }

    private static String told(Method method) {
        StringBuilder told = new StringBuilder(method.getReturnType().getName()).append(' ').append(method.getName()).append('(');
        Class<?>[] types = method.getParameterTypes();
        for (int i = 0; i < types.length; i++) {
            told.append(i == 0 ? "" : ", ").append(types[i].getName());
        }
        told.append(')');
        for (Class<?> thrown : method.getExceptionTypes()) {
            told.append(' ').append(thrown.getSimpleName());
        }
        return told.toString();
    }

    private static void methods() {
        Check.says("The public face");
        Set<String> seen = new TreeSet<>();
        Set<String> names = new TreeSet<>();
        for (Method method : BorrowedLuck.class.getDeclaredMethods()) {
            if (!Modifier.isPrivate(method.getModifiers()) && !method.isSynthetic()) {
                seen.add(told(method));
                names.add(method.getName());
                Check.due(method + " is public", Modifier.isPublic(method.getModifiers()), true);
                Check.due(method + " is of an object", Modifier.isStatic(method.getModifiers()), false);
            }
        }
        Check.same("the methods", seen.toString(), new TreeSet<>(Set.of(FACE)).toString());
        for (Method method : BorrowedLuck.class.getDeclaredMethods()) {
            if (Modifier.isPrivate(method.getModifiers())) {
                Check.due("a private method named as a public one: " + method, names.contains(method.getName()), false);
            }
        }
    }

    private static void constantsAndConstructor() {
        Check.says("public static final int NONE = -1;");
        Check.due("the class is public and final", BorrowedLuck.class.getModifiers(), Modifier.PUBLIC | Modifier.FINAL);
        Check.due("NONE", BorrowedLuck.NONE, -1);
        for (Field field : BorrowedLuck.class.getDeclaredFields()) {
            if (!Modifier.isPrivate(field.getModifiers())) {
                Check.same("a field", field.toString(), "public static final int BorrowedLuck.NONE");
            }
            if (Modifier.isStatic(field.getModifiers())) {
                Check.due("a static field is final: " + field, Modifier.isFinal(field.getModifiers()), true);
            }
        }
        Constructor<?>[] made = BorrowedLuck.class.getDeclaredConstructors();
        Check.due("one constructor", made.length, 1);
        Check.same("which", made[0].toString(), "public BorrowedLuck()");
    }

    private static void classesInside() {
        Check.says("The public face");
        for (Class<?> inside : BorrowedLuck.class.getDeclaredClasses()) {
            int modifiers = inside.getModifiers();
            Check.due(inside + " is static", Modifier.isStatic(modifiers), true);
            Check.due(inside + " is not of the face", Modifier.isPublic(modifiers) || Modifier.isProtected(modifiers), false);
        }
        Check.due("classes, at most twelve", BorrowedLuck.class.getDeclaredClasses().length < 12, true);
    }
}
