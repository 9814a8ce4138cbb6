import java.lang.reflect.Constructor;
import java.lang.reflect.Field;
import java.lang.reflect.Method;
import java.lang.reflect.Modifier;
import java.util.ArrayList;
import java.util.Arrays;
import java.util.List;
import java.util.TreeSet;

/** The class shows the document's face and nothing else. */
final class FaceTest {
    private static final String[] FACE = {
        "int addWord(int, char, int) IllegalArgumentException IllegalStateException",
        "int addHand() IllegalStateException",
        "int file(int, int) IndexOutOfBoundsException IllegalArgumentException UnsupportedOperationException"
            + " IllegalStateException",
        "int fork(int, int) IndexOutOfBoundsException UnsupportedOperationException IllegalStateException",
        "int write(int, int) IndexOutOfBoundsException UnsupportedOperationException IllegalStateException",
        "int correct(int, int, int) IndexOutOfBoundsException NoSuchElementException"
            + " UnsupportedOperationException",
        "int length(int) IndexOutOfBoundsException",
        "int wordAt(int, int) IndexOutOfBoundsException NoSuchElementException",
        "int depth(int) IndexOutOfBoundsException",
        "boolean setStrike(boolean)",
        "int pass(int) IllegalArgumentException",
        "int hour()",
        "int addPaper(int, int, int, int, int) IllegalArgumentException IllegalStateException",
        "int count(int, int) IndexOutOfBoundsException",
        "int lines(int, int) IndexOutOfBoundsException",
        "int badness(int, int) IndexOutOfBoundsException",
        "int fits(int, int, int) IndexOutOfBoundsException IllegalArgumentException",
        "boolean ban(int, int, boolean) IndexOutOfBoundsException",
        "int breaches(int, int) IndexOutOfBoundsException",
        "boolean setExclusive(int, boolean) IndexOutOfBoundsException UnsupportedOperationException",
        "int run(int, int, int) IndexOutOfBoundsException IllegalArgumentException"
            + " UnsupportedOperationException IllegalStateException",
        "int ran(int) IndexOutOfBoundsException",
        "int pay(int) IndexOutOfBoundsException",
        "int owed(int, int) IndexOutOfBoundsException",
        "int claim(int, int, int) IndexOutOfBoundsException IllegalArgumentException",
        "int settle(int, int) IndexOutOfBoundsException",
        "long paid(int) IndexOutOfBoundsException",
        "int padding(int) IndexOutOfBoundsException",
        "boolean isPadding(int, int) IndexOutOfBoundsException NoSuchElementException",
        "int shingles(int) IndexOutOfBoundsException",
        "int likeness(int, int) IndexOutOfBoundsException",
        "int sources(int) IllegalArgumentException",
        "boolean areOne(int, int) IndexOutOfBoundsException",
        "int known(int) IndexOutOfBoundsException UnsupportedOperationException NoSuchElementException",
        "int first(int) IndexOutOfBoundsException UnsupportedOperationException NoSuchElementException",
        "int contradictions(int) IllegalArgumentException",
        "long checksum()",
        "float ranShare() ArithmeticException",
        "double meanPay() ArithmeticException",
        "boolean isSound()",
    };

    private FaceTest() {
    }

    static void runAll(Check check) {
        TreeSet<String> wanted = new TreeSet<>(Arrays.asList(FACE));
        TreeSet<String> shown = new TreeSet<>();
        for (Method method : LinageOffice.class.getDeclaredMethods()) {
            if (!Modifier.isPrivate(method.getModifiers())) {
                shown.add(told(method));
                check.due(method.getName() + " is public and no more", method.getModifiers(), Modifier.PUBLIC);
            }
        }
        check.dueText("the methods", shown.toString(), wanted.toString());
        check.due("the class is public, final and no more", LinageOffice.class.getModifiers(),
            Modifier.PUBLIC | Modifier.FINAL);
        check.dueText("the package", LinageOffice.class.getPackageName(), "");
        check.dueText("what it extends", LinageOffice.class.getSuperclass().getName(), "java.lang.Object");
        check.due("interfaces", LinageOffice.class.getInterfaces().length, 0);
        constructors(check);
        hidden(check);
        inside(check);
    }

    private static void constructors(Check check) {
        Constructor<?>[] made = LinageOffice.class.getDeclaredConstructors();
        check.due("how many constructors", made.length, 1);
        check.due("the constructor's parameters", made[0].getParameterCount(), 0);
        check.due("the constructor is public", Modifier.isPublic(made[0].getModifiers()), true);
        check.due("the constructor's exceptions", made[0].getExceptionTypes().length, 0);
    }

    /** Classes inside are static, and private or package-visible. */
    private static void inside(Check check) {
        for (Class<?> type : LinageOffice.class.getDeclaredClasses()) {
            int how = type.getModifiers();
            check.due(type.getName() + " is static", Modifier.isStatic(how), true);
            check.due(type.getName() + " is seen", Modifier.isPublic(how) || Modifier.isProtected(how), false);
        }
    }

    private static void hidden(Check check) {
        List<String> names = new ArrayList<>();
        for (Method method : LinageOffice.class.getDeclaredMethods()) {
            if (Modifier.isPublic(method.getModifiers())) {
                names.add(method.getName());
            }
        }
        for (Method method : LinageOffice.class.getDeclaredMethods()) {
            if (!Modifier.isPublic(method.getModifiers())) {
                check.due(method.getName() + " bears a public name", names.contains(method.getName()), false);
            }
        }
        for (Field field : LinageOffice.class.getDeclaredFields()) {
            int how = field.getModifiers();
            check.due(field.getName() + " is private", Modifier.isPrivate(how), true);
            check.due(field.getName() + " is static and changes", Modifier.isStatic(how) && !Modifier.isFinal(how),
                false);
        }
    }

    private static String told(Method method) {
        StringBuilder text = new StringBuilder(method.getReturnType().getSimpleName());
        text.append(' ').append(method.getName()).append('(');
        String comma = "";
        for (Class<?> type : method.getParameterTypes()) {
            text.append(comma).append(type.getSimpleName());
            comma = ", ";
        }
        text.append(')');
        for (Class<?> type : method.getExceptionTypes()) {
            text.append(' ').append(type.getSimpleName());
        }
        return text.toString();
    }
}
