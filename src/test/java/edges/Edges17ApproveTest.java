/** The edges that the document names in promise 17, approve. */
public final class Edges17ApproveTest {
    public static void main(String[] args) {
        theTolerance0();
        theTolerance9999();
        returnsTheNumberThatIsApproved();
        anyMonthIsApproved();
        throwsIfThereIsNoSuchLine();
        throwsIfThereIsNoSuchMonth();
        throwsIfTheToleranceIsOutOfRange();
        throwsIfThereIsNoNumber();
        theFirstExceptionIsThrown();
        Run.end();
    }

    private static Run one(String name, String... calls) {
        return Run.with(name, "addDriver(5)", "addLine('d', 0, 0)").and(calls);
    }

    private static void theTolerance0() {
        one("the tolerance, 0 to 9999: 0")
            .throwing("approve(0, 0, -1)", Thrown.ARGUMENT)
            .due("approve(0, 0, 0)", 5)
            .seen("state(0, 0)", 'a')
            .seen("meanTolerance()", 0.0);
    }

    private static void theTolerance9999() {
        one("the tolerance, 0 to 9999: 9999")
            .throwing("approve(0, 0, 10000)", Thrown.ARGUMENT)
            .due("approve(0, 0, 9999)", 5)
            .seen("state(0, 0)", 'a')
            .seen("meanTolerance()", 9999.0);
    }

    private static void returnsTheNumberThatIsApproved() {
        one("Returns the number that is approved", "addScenario(0)", "differ(1, 0, 0, 900)", "addLine('m', 0, 0)",
                "addLine('m', 1, 0)")
            .due("approve(0, 0, 0)", 5)
            .due("approve(1, 0, 0)", 0)
            .due("approve(2, 0, 0)", -5)
            .and("actual(2, 0, -9999999)")
            .due("approve(2, 0, 0)", -9999999)
            .due("approve(2, 1, 0)", -5)
            .and("setDriver(0, 6)")
            .due("approve(0, 0, 0)", 6);
        Run.with("Returns the number that is approved: the ends of its range", "addDriver(0)", "addLine('d', 0, 0)",
                "addLine('d', 0, 0)", "addLine('p', 0, 1)", "actual(0, 0, 3333)", "actual(1, 0, 3000300)")
            .due("approve(2, 0, 0)", 99999999)
            .and("actual(0, 0, -3333)")
            .due("approve(2, 0, 0)", -99999999)
            .seen("drift(2, 0)", 0)
            .seen("state(2, 0)", 'a');
    }

    private static void anyMonthIsApproved() {
        Run run = one("the month, also a later one");
        for (int month = 0; month < 12; month++) {
            run.due("approve(0, " + month + ", " + month + ")", 5).seen("state(0, " + month + ")", 'a');
        }
        run.seen("meanTolerance()", 5.5);
    }

    private static void throwsIfThereIsNoSuchLine() {
        one("IndexOutOfBoundsException if there is no such line", "addLine('d', 0, 0)")
            .throwingEach(Thrown.INDEX, "approve(2, 0, 0)", "approve(-1, 0, 0)", "approve(9, 0, 0)", "approve(10, 0, 0)",
                "approve(-2147483648, 0, 0)", "approve(2147483647, 0, 0)")
            .due("approve(1, 0, 0)", 5);
    }

    private static void throwsIfThereIsNoSuchMonth() {
        one("IndexOutOfBoundsException if there is no such month", "addLine('d', 0, 0)")
            .throwingEach(Thrown.INDEX, "approve(0, 12, 0)", "approve(1, -1, 0)", "approve(0, -1, 0)",
                "approve(0, -2147483648, 0)", "approve(0, 2147483647, 0)")
            .due("approve(0, 0, 0)", 5)
            .due("approve(0, 11, 0)", 5);
    }

    private static void throwsIfTheToleranceIsOutOfRange() {
        one("IllegalArgumentException if the tolerance is out of range", "approve(0, 0, 3)", "setDriver(0, 7)")
            .throwingEach(Thrown.ARGUMENT, "approve(0, 0, -1)", "approve(0, 0, 10000)", "approve(0, 0, -2147483648)",
                "approve(0, 0, 2147483647)", "approve(0, 1, 10000)")
            .seen("drift(0, 0)", 2)
            .seen("meanTolerance()", 3.0)
            .seen("state(0, 1)", '-')
            .due("setDriver(0, 8)", 0)
            .due("setDriver(0, 9)", 1);
    }

    /** Line 2 has a number up to 3162 alone. */
    private static Run quick(String name, int value) {
        return Run.with(name, "addDriver(" + value + ")", "addLine('d', 0, 0)", "addLine('p', 0, 0)",
            "addLine('p', 1, 1)");
    }

    private static void throwsIfThereIsNoNumber() {
        String name = "UnsupportedOperationException if there is no number";
        quick(name, 3163)
            .throwing("approve(2, 0, 9999)", Thrown.UNSUPPORTED)
            .throwing("approve(2, 0, 0)", Thrown.UNSUPPORTED)
            .seen("state(2, 0)", '-')
            .throwing("drift(2, 0)", Thrown.NO_SUCH)
            .throwing("meanTolerance()", Thrown.ARITHMETIC)
            .due("approve(1, 0, 0)", 100045)
            .and("setDriver(0, 3162)")
            .due("approve(2, 0, 0)", 99964003);
        quick(name + ": the earlier approval stays", 3162).and("approve(2, 0, 40)", "setDriver(0, 3163)")
            .throwing("approve(2, 0, 50)", Thrown.UNSUPPORTED)
            .seen("state(2, 0)", 'o')
            .seen("meanTolerance()", 40.0)
            .and("setDriver(0, 3162)")
            .seen("drift(2, 0)", 0);
    }

    private static void theFirstExceptionIsThrown() {
        String name = "the one that is documented first: ";
        one(name + "no such line or month, and the tolerance out of range")
            .throwingEach(Thrown.INDEX, "approve(1, 0, -1)", "approve(-1, 0, 10000)", "approve(0, 12, 10000)",
                "approve(0, -1, -1)");
        quick(name + "no such line or month, and no number", 9999)
            .throwingEach(Thrown.INDEX, "approve(3, 0, 0)", "approve(2, 12, 0)", "approve(2, -1, 0)");
        quick(name + "the tolerance out of range, and no number", 9999)
            .throwingEach(Thrown.ARGUMENT, "approve(2, 0, -1)", "approve(2, 0, 10000)")
            .throwing("approve(2, 0, 0)", Thrown.UNSUPPORTED);
    }
}
