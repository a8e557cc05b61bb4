/** The edges that the document names in promise 3, setDriver. */
public final class Edges03SetDriverTest {
    public static void main(String[] args) {
        theValue0();
        theValue9999();
        returnsThoseOpenAgainByThis();
        returnsAllThatAreOpenAgainByThis();
        throwsIfThereIsNoSuchDriver();
        throwsIfTheValueIsOutOfRange();
        theFirstExceptionIsThrown();
        Run.end();
    }

    private static void theValue0() {
        Run.with("its value, 0 to 9999: 0", "addDriver(5)", "addLine('d', 0, 0)", "approve(0, 0, 0)")
            .throwing("setDriver(0, -1)", Thrown.ARGUMENT)
            .due("setDriver(0, 0)", 1)
            .seen("driver(0, 0, 0)", 0)
            .seen("number(0, 0, 0)", 0);
    }

    private static void theValue9999() {
        Run.with("its value, 0 to 9999: 9999", "addDriver(5)", "addLine('d', 0, 0)", "approve(0, 0, 0)")
            .throwing("setDriver(0, 10000)", Thrown.ARGUMENT)
            .due("setDriver(0, 9999)", 1)
            .seen("driver(0, 0, 0)", 9999)
            .seen("number(0, 0, 0)", 9999);
    }

    private static void returnsThoseOpenAgainByThis() {
        Run.with("the number of approvals that are open again by this", "addDriver(5)", "addDriver(5)",
                "addLine('d', 0, 0)", "addLine('d', 1, 0)", "addLine('s', 0, 1)")
            .due("setDriver(0, 6)", 0)
            .and("approve(0, 0, 1)", "approve(1, 0, 0)", "approve(2, 0, 2)")
            .due("setDriver(0, 6)", 0)
            .due("setDriver(0, 7)", 0)
            .due("setDriver(0, 8)", 1)
            .due("setDriver(0, 8)", 0)
            .due("setDriver(1, 6)", 2)
            .due("setDriver(1, 9999)", 0)
            .due("setDriver(1, 5)", 0)
            .seen("open()", 3)
            .and("approve(0, 0, 0)")
            .due("setDriver(0, 9)", 1)
            .seen("open()", 3);
    }

    private static void returnsAllThatAreOpenAgainByThis() {
        Run run = Run.with("the number of approvals that are open again by this: all", "addDriver(5)");
        for (int line = 0; line < 10; line++) {
            run.and("addLine('d', 0, 0)");
            for (int month = 0; month < 12; month++) {
                run.and("approve(" + line + ", " + month + ", 0)");
            }
        }
        run.due("setDriver(0, 5)", 0).due("setDriver(0, 6)", 120).due("setDriver(0, 7)", 0);
    }

    private static void throwsIfThereIsNoSuchDriver() {
        new Run("IndexOutOfBoundsException if there is no such driver: none")
            .throwingEach(Thrown.INDEX, "setDriver(0, 5)", "setDriver(-1, 5)")
            .and("addDriver(5)")
            .due("setDriver(0, 6)", 0);
        Run.with("IndexOutOfBoundsException if there is no such driver", "addDriver(5)", "addDriver(6)")
            .throwingEach(Thrown.INDEX, "setDriver(2, 7)", "setDriver(-1, 7)", "setDriver(5, 7)", "setDriver(6, 7)",
                "setDriver(-2147483648, 7)", "setDriver(2147483647, 7)")
            .due("setDriver(1, 7)", 0)
            .seen("driver(0, 0, 0)", 5)
            .seen("driver(0, 1, 0)", 7);
        Run.with("IndexOutOfBoundsException if there is no such driver: 6 drivers", "addDriver(1)", "addDriver(1)",
                "addDriver(1)", "addDriver(1)", "addDriver(1)", "addDriver(1)")
            .throwing("setDriver(6, 2)", Thrown.INDEX)
            .due("setDriver(5, 2)", 0)
            .seen("driver(0, 5, 0)", 2);
    }

    private static void throwsIfTheValueIsOutOfRange() {
        Run.with("IllegalArgumentException if the value is out of range", "addDriver(5)", "addLine('d', 0, 0)",
                "approve(0, 0, 0)")
            .throwingEach(Thrown.ARGUMENT, "setDriver(0, -1)", "setDriver(0, 10000)", "setDriver(0, -2147483648)",
                "setDriver(0, 2147483647)")
            .seen("driver(0, 0, 0)", 5)
            .seen("state(0, 0)", 'a')
            .due("setDriver(0, 5)", 0);
    }

    private static void theFirstExceptionIsThrown() {
        Run.with("the one that is documented first: no such driver, and out of range", "addDriver(5)")
            .throwingEach(Thrown.INDEX, "setDriver(1, -1)", "setDriver(1, 10000)", "setDriver(-1, -1)",
                "setDriver(-1, 10000)")
            .throwing("setDriver(0, 10000)", Thrown.ARGUMENT);
    }
}
