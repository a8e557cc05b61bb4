import java.util.NoSuchElementException;

/** Promise 14: takeActual. */
public final class Promise14TakeActualTest {
    private static final Class<IndexOutOfBoundsException> INDEX = IndexOutOfBoundsException.class;
    private static final Class<NoSuchElementException> NO_SUCH = NoSuchElementException.class;

    public static void main(String[] args) {
        Run.with("an actual that is taken", "addDriver(10)", "addLine('d', 0, 0)", "addLine('s', 0, 0)", "pass()",
                "actual(0, 0, 20)", "actual(0, 1, 21)", "actual(1, 0, 0)", "approve(0, 0, 9)", "approve(1, 1, 22)",
                "approve(0, 1, 10)", "approve(0, 2, 0)")
            .throwing("takeActual(1, 1)", NO_SUCH)
            .throwing("takeActual(0, 2)", NO_SUCH)
            .throwing("takeActual(0, 11)", NO_SUCH)
            .throwing("takeActual(0, 12)", INDEX)
            .throwing("takeActual(0, -1)", INDEX)
            .throwing("takeActual(2, 0)", INDEX)
            .throwing("takeActual(-1, 0)", INDEX)
            .throwing("takeActual(9, 11)", INDEX)
            .due("takeActual(0, 0)", 1)
            .due("state(0, 0)", 'o')
            .due("number(0, 0, 0)", 10)
            .due("number(0, 1, 0)", 0)
            .throwing("takeActual(0, 0)", NO_SUCH)
            .due("takeActual(1, 0)", 0)
            .due("number(0, 1, 0)", 20)
            .due("takeActual(0, 1)", 1)
            .due("state(0, 1)", 'o')
            .due("state(1, 1)", 'a')
            .due("drift(1, 1)", -22)
            .due("open()", 2)
            .due("actual(0, 0, 20)", 0)
            .due("takeActual(0, 0)", 0);
        Run.with("none behind an actual that is taken", "addDriver(9999)", "addLine('d', 0, 0)", "addLine('p', 0, 0)",
                "addLine('p', 1, 1)", "addLine('s', 2, 0)", "actual(2, 0, 0)", "approve(2, 0, 9999)",
                "approve(3, 0, 9999)")
            .due("takeActual(2, 0)", 2)
            .due("open()", 2)
            .due("actual(2, 0, 0)", 0)
            .due("takeActual(2, 0)", 0);
        Run.end();
    }
}
