import java.util.NoSuchElementException;

/** Promise 19: drift. */
public final class Promise19DriftTest {
    private static final Class<IndexOutOfBoundsException> INDEX = IndexOutOfBoundsException.class;
    private static final Class<NoSuchElementException> NO_SUCH = NoSuchElementException.class;
    private static final Class<UnsupportedOperationException> NONE = UnsupportedOperationException.class;

    public static void main(String[] args) {
        Run.with("drifts", "addDriver(100)", "addLine('d', 0, 0)", "addLine('p', 0, 0)", "addLine('p', 1, 1)",
                "addLine('p', 2, 2)", "addScenario(0)", "differ(1, 0, 0, 50)", "approve(0, 0, 10)", "approve(3, 4, 0)")
            .seen("drift(0, 0)", 0)
            .due("setDriver(0, 110)", 1)
            .seen("drift(0, 0)", 10)
            .due("setDriver(0, 80)", 1)
            .seen("drift(0, 0)", -20)
            .seen("state(0, 0)", 'o')
            .due("approve(0, 0, 10)", 80)
            .seen("drift(0, 0)", 0)
            .due("actual(0, 0, -9999999)", 1)
            .seen("drift(0, 0)", -10000079)
            .due("setDriver(0, 9999)", 0)
            .throwing("number(0, 3, 4)", NONE)
            .throwing("drift(3, 4)", NONE)
            .throwing("drift(3, 5)", NO_SUCH)
            .throwing("drift(3, 12)", INDEX)
            .throwing("drift(3, -1)", INDEX)
            .throwing("drift(4, 4)", INDEX)
            .throwing("drift(-1, 4)", INDEX)
            .throwing("drift(0, 1)", NO_SUCH)
            .due("setDriver(0, 100)", 0)
            .seen("drift(3, 4)", 0)
            .seen("state(3, 4)", 'o');
        Run.with("a drift over the whole range", "addDriver(0)", "addLine('d', 0, 0)", "addLine('d', 0, 0)",
                "addLine('p', 0, 1)", "actual(0, 0, 9999999)", "actual(1, 0, 1000)", "approve(2, 0, 9999)")
            .due("actual(0, 0, -9999999)", 1)
            .seen("drift(2, 0)", -199999980);
        Run.end();
    }
}
