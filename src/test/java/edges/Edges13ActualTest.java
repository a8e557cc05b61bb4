/** The edges that the document names in promise 13, actual. */
public final class Edges13ActualTest {
    public static void main(String[] args) {
        inPlaceOfOneThatIsThere();
        theMonthUpToThePresentOne();
        theNumberMinus9999999();
        theNumber9999999();
        returnsThoseOpenAgainByThis();
        returnsAllOfItsMonth();
        throwsIfThereIsNoSuchLine();
        throwsIfThereIsNoSuchMonth();
        throwsIfTheMonthIsLaterThanThePresentOne();
        throwsIfTheNumberIsOutOfRange();
        theFirstExceptionIsThrown();
        Run.end();
    }

    private static Run one(String name, String... calls) {
        return Run.with(name, "addDriver(5)", "addLine('d', 0, 0)").and(calls);
    }

    private static void inPlaceOfOneThatIsThere() {
        one("Tells an actual, in place of one that is there")
            .due("actual(0, 0, 7)", 0)
            .seen("number(0, 0, 0)", 7)
            .due("actual(0, 0, 8)", 0)
            .seen("number(0, 0, 0)", 8)
            .due("takeActual(0, 0)", 0)
            .seen("number(0, 0, 0)", 5)
            .throwing("takeActual(0, 0)", Thrown.NO_SUCH);
    }

    private static void theMonthUpToThePresentOne() {
        Run run = one("the month, up to the present one");
        for (int month = 0; month < 12; month++) {
            if (month < 11) {
                run.throwing("actual(0, " + (month + 1) + ", 1)", Thrown.ARGUMENT)
                    .throwing("actual(0, 11, 1)", Thrown.ARGUMENT);
            }
            run.due("actual(0, " + month + ", " + (month + 20) + ")", 0)
                .seen("number(0, 0, " + month + ")", month + 20)
                .due("actual(0, 0, 20)", 0);
            if (month < 11) {
                run.due("pass()", month + 1);
            }
        }
    }

    private static void theNumberMinus9999999() {
        one("the number, -9999999 to 9999999: -9999999")
            .throwing("actual(0, 0, -10000000)", Thrown.ARGUMENT)
            .due("actual(0, 0, -9999999)", 0)
            .seen("number(0, 0, 0)", -9999999);
    }

    private static void theNumber9999999() {
        one("the number, -9999999 to 9999999: 9999999")
            .throwing("actual(0, 0, 10000000)", Thrown.ARGUMENT)
            .due("actual(0, 0, 9999999)", 0)
            .seen("number(0, 0, 0)", 9999999);
    }

    private static void returnsThoseOpenAgainByThis() {
        one("the number of approvals that are open again by this", "addLine('s', 0, 0)", "approve(0, 0, 1)",
                "approve(1, 0, 3)", "approve(0, 1, 0)")
            .due("actual(0, 0, 5)", 0)
            .due("actual(0, 0, 6)", 0)
            .due("actual(0, 0, 7)", 2)
            .due("actual(0, 0, 8)", 0)
            .due("actual(0, 0, 5)", 0)
            .seen("open()", 2)
            .seen("state(0, 1)", 'a')
            .and("approve(0, 0, 0)")
            .due("actual(0, 0, 4)", 1)
            .seen("open()", 2);
    }

    private static void returnsAllOfItsMonth() {
        Run run = Run.with("the number of approvals that are open again by this: all of its month", "addDriver(5)",
            "addLine('d', 0, 0)");
        for (int line = 1; line < 10; line++) {
            run.and("addLine('s', " + (line - 1) + ", 0)");
        }
        for (int line = 0; line < 10; line++) {
            run.and("approve(" + line + ", 0, 0)", "approve(" + line + ", 1, 0)");
        }
        run.due("actual(9, 0, 51)", 1).due("actual(0, 0, 6)", 9).due("actual(0, 0, 7)", 0).seen("open()", 10);
    }

    private static void throwsIfThereIsNoSuchLine() {
        one("IndexOutOfBoundsException if there is no such line", "addDriver(1)", "addDriver(1)", "addLine('d', 0, 0)")
            .throwingEach(Thrown.INDEX, "actual(2, 0, 1)", "actual(-1, 0, 1)", "actual(9, 0, 1)", "actual(10, 0, 1)",
                "actual(-2147483648, 0, 1)", "actual(2147483647, 0, 1)")
            .due("actual(1, 0, 1)", 0)
            .seen("number(0, 0, 0)", 5)
            .seen("number(0, 1, 0)", 1);
    }

    private static void throwsIfThereIsNoSuchMonth() {
        Run run = one("IndexOutOfBoundsException if there is no such month")
            .throwingEach(Thrown.INDEX, "actual(0, -1, 1)", "actual(0, 12, 1)", "actual(0, -2147483648, 1)",
                "actual(0, 2147483647, 1)");
        for (int month = 1; month < 12; month++) {
            run.and("pass()");
        }
        run.throwingEach(Thrown.INDEX, "actual(0, -1, 1)", "actual(0, 12, 1)").due("actual(0, 11, 1)", 0);
    }

    private static void throwsIfTheMonthIsLaterThanThePresentOne() {
        one("IllegalArgumentException if the month is later than the present one", "approve(0, 1, 0)", "actual(0, 0, 3)")
            .throwingEach(Thrown.ARGUMENT, "actual(0, 1, 9)", "actual(0, 2, 9)", "actual(0, 11, 9)")
            .seen("number(0, 0, 1)", 5)
            .seen("state(0, 1)", 'a')
            .throwing("takeActual(0, 1)", Thrown.NO_SUCH)
            .and("pass()")
            .throwing("actual(0, 2, 9)", Thrown.ARGUMENT)
            .due("actual(0, 1, 9)", 1);
    }

    private static void throwsIfTheNumberIsOutOfRange() {
        one("IllegalArgumentException if the number is out of range", "approve(0, 0, 0)", "actual(0, 0, 5)")
            .throwingEach(Thrown.ARGUMENT, "actual(0, 0, 10000000)", "actual(0, 0, -10000000)",
                "actual(0, 0, -1000000000)", "actual(0, 0, -2147483648)", "actual(0, 0, 2147483647)")
            .seen("number(0, 0, 0)", 5)
            .seen("state(0, 0)", 'a')
            .due("takeActual(0, 0)", 0);
    }

    private static void theFirstExceptionIsThrown() {
        one("the one that is documented first: no such line or month, and out of range or later")
            .throwingEach(Thrown.INDEX, "actual(1, 0, 10000000)", "actual(-1, 0, -10000000)", "actual(1, 1, 1)",
                "actual(0, 12, 10000000)", "actual(0, -1, -10000000)", "actual(1, 11, 10000000)")
            .throwing("actual(0, 1, 10000000)", Thrown.ARGUMENT);
    }
}
