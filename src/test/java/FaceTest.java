import java.lang.reflect.Field;
import java.lang.reflect.Method;
import java.lang.reflect.Modifier;
import java.util.Arrays;
import java.util.TreeSet;

/** The public face of the class, as it stands in the document. */
public final class FaceTest {
    private static final String[] FACE = {
        "int addDriver(int) IllegalArgumentException IllegalStateException",
        "int setDriver(int, int) IndexOutOfBoundsException IllegalArgumentException",
        "int driver(int, int, int) IndexOutOfBoundsException",
        "int addLine(char, int, int) IllegalArgumentException IndexOutOfBoundsException IllegalStateException",
        "int addScenario(int) IndexOutOfBoundsException IllegalStateException",
        "int differ(int, int, int, int) IndexOutOfBoundsException IllegalArgumentException"
            + " UnsupportedOperationException IllegalStateException",
        "int number(int, int, int) IndexOutOfBoundsException UnsupportedOperationException",
        "int numberByHand(int, int, int) IndexOutOfBoundsException UnsupportedOperationException",
        "long year(int, int) IndexOutOfBoundsException UnsupportedOperationException",
        "int effect(int, int, int, int) IndexOutOfBoundsException UnsupportedOperationException",
        "int seek(int, int, int, int) IndexOutOfBoundsException NoSuchElementException",
        "int actual(int, int, int) IndexOutOfBoundsException IllegalArgumentException",
        "int takeActual(int, int) IndexOutOfBoundsException NoSuchElementException",
        "int pass() IllegalStateException",
        "int month()",
        "int approve(int, int, int) IndexOutOfBoundsException IllegalArgumentException UnsupportedOperationException",
        "char state(int, int) IndexOutOfBoundsException",
        "int drift(int, int) IndexOutOfBoundsException NoSuchElementException UnsupportedOperationException",
        "int open()",
        "float approvedShare() ArithmeticException",
        "double meanTolerance() ArithmeticException",
    };

    public static void main(String[] args) {
        TreeSet<String> due = new TreeSet<>(Arrays.asList(FACE));
        TreeSet<String> found = new TreeSet<>();
        boolean right = CostStudio.class.getDeclaredConstructors().length == 1
            && CostStudio.class.getConstructors().length == 1 && Modifier.isFinal(CostStudio.class.getModifiers());
        for (Method method : CostStudio.class.getDeclaredMethods()) {
            if (!Modifier.isPrivate(method.getModifiers())) {
                found.add(text(method));
            }
        }
        for (Field field : CostStudio.class.getDeclaredFields()) {
            right &= Modifier.isPrivate(field.getModifiers());
        }
        if (!right || !due.equals(found)) {
            System.out.println("the face is " + found + ", due is " + due);
            System.exit(1);
        }
    }

    private static String text(Method method) {
        StringBuilder text = new StringBuilder(method.getReturnType().getSimpleName());
        text.append(' ').append(method.getName()).append('(');
        for (Class<?> parameter : method.getParameterTypes()) {
            text.append(text.charAt(text.length() - 1) == '(' ? "" : ", ").append(parameter.getSimpleName());
        }
        text.append(')');
        for (Class<?> thrown : method.getExceptionTypes()) {
            text.append(' ').append(thrown.getSimpleName());
        }
        return text.toString();
    }
}
