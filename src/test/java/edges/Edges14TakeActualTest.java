/** The edges that the document names in promise 14, takeActual. */
public final class Edges14TakeActualTest {
    public static void main(String[] args) {
        takesOneAway();
        takesOneOf0AndOneThatIsAsComputed();
        returnsThoseOpenAgainByThis();
        throwsIfThereIsNoSuchLine();
        throwsIfThereIsNoSuchMonth();
        throwsIfThereIsNone();
        theFirstExceptionIsThrown();
        Run.end();
    }

    private static Run one(String name, String... calls) {
        return Run.with(name, "addDriver(5)", "addLine('d', 0, 0)").and(calls);
    }

    private static void takesOneAway() {
        Run run = one("Takes an actual away: of the first and the last line and month");
        for (int line = 1; line < 10; line++) {
            run.and("addLine('d', 0, 0)");
        }
        for (int month = 1; month < 12; month++) {
            run.and("pass()");
        }
        run.and("actual(0, 0, 1)", "actual(9, 11, 2)", "actual(0, 11, 3)", "actual(9, 0, 4)", "actual(1, 0, 6)",
                "actual(0, 1, 7)")
            .due("takeActual(0, 0)", 0).seen("number(0, 0, 0)", 5).throwing("takeActual(0, 0)", Thrown.NO_SUCH)
            .due("takeActual(9, 11)", 0).seen("number(0, 9, 11)", 5).throwing("takeActual(9, 11)", Thrown.NO_SUCH)
            .seen("number(0, 0, 11)", 3)
            .seen("number(0, 9, 0)", 4)
            .seen("number(0, 1, 0)", 6)
            .seen("number(0, 0, 1)", 7);
    }

    private static void takesOneOf0AndOneThatIsAsComputed() {
        one("Takes an actual away: of 0", "actual(0, 0, 0)").due("takeActual(0, 0)", 0).seen("number(0, 0, 0)", 5);
        one("Takes an actual away: of the same number", "actual(0, 0, 5)").due("takeActual(0, 0)", 0)
            .throwing("takeActual(0, 0)", Thrown.NO_SUCH);
    }

    private static void returnsThoseOpenAgainByThis() {
        one("the number of approvals that are open again by this", "addLine('s', 0, 0)", "addLine('s', 1, 1)",
                "actual(0, 0, 7)", "approve(0, 0, 1)", "approve(1, 0, 4)", "approve(2, 0, 7)", "approve(0, 1, 0)")
            .due("takeActual(0, 0)", 2)
            .seen("state(1, 0)", 'a')
            .seen("state(0, 1)", 'a')
            .due("actual(0, 0, 7)", 0)
            .due("takeActual(0, 0)", 0)
            .seen("open()", 2);
    }

    private static void throwsIfThereIsNoSuchLine() {
        one("IndexOutOfBoundsException if there is no such line", "addLine('d', 0, 0)", "actual(0, 0, 1)",
                "actual(1, 0, 2)")
            .throwingEach(Thrown.INDEX, "takeActual(2, 0)", "takeActual(-1, 0)", "takeActual(9, 0)", "takeActual(10, 0)",
                "takeActual(-2147483648, 0)", "takeActual(2147483647, 0)")
            .due("takeActual(1, 0)", 0);
    }

    private static void throwsIfThereIsNoSuchMonth() {
        one("IndexOutOfBoundsException if there is no such month", "actual(0, 0, 1)", "addLine('d', 0, 0)",
                "actual(1, 0, 2)")
            .throwingEach(Thrown.INDEX, "takeActual(0, -1)", "takeActual(0, 12)", "takeActual(1, -12)",
                "takeActual(0, -2147483648)", "takeActual(0, 2147483647)")
            .due("takeActual(0, 0)", 0)
            .due("takeActual(1, 0)", 0);
    }

    private static void throwsIfThereIsNone() {
        one("NoSuchElementException if there is none", "addLine('d', 0, 0)", "pass()", "pass()", "actual(0, 1, 9)",
                "approve(0, 1, 0)")
            .throwingEach(Thrown.NO_SUCH, "takeActual(0, 0)", "takeActual(1, 1)", "takeActual(0, 2)", "takeActual(0, 3)",
                "takeActual(0, 11)")
            .seen("number(0, 0, 1)", 9)
            .seen("state(0, 1)", 'a')
            .due("takeActual(0, 1)", 1)
            .throwing("takeActual(0, 1)", Thrown.NO_SUCH);
    }

    private static void theFirstExceptionIsThrown() {
        one("the one that is documented first: no such line or month, and none")
            .throwingEach(Thrown.INDEX, "takeActual(1, 0)", "takeActual(0, 12)", "takeActual(-1, 0)", "takeActual(0, -1)")
            .throwing("takeActual(0, 0)", Thrown.NO_SUCH);
    }
}
