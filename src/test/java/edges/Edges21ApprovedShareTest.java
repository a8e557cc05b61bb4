/** The edges that the document names in promise 21, approvedShare. */
public final class Edges21ApprovedShareTest {
    public static void main(String[] args) {
        allOrNone();
        convertedToFloat();
        ofAllLinesAndMonths();
        thoseThatWereReplacedLeftOut();
        throwsIfThereAreNoApprovals();
        Run.end();
    }

    private static Run one(String name, String... calls) {
        return Run.with(name, "addDriver(5)", "addLine('d', 0, 0)").and(calls);
    }

    private static void allOrNone() {
        one("the share of the approvals that are not open again: all or none", "approve(0, 0, 0)")
            .seen("approvedShare()", 1.0f)
            .and("approve(0, 11, 0)")
            .seen("approvedShare()", 1.0f)
            .and("setDriver(0, 6)")
            .seen("approvedShare()", 0.0f);
    }

    private static void convertedToFloat() {
        one("both converted to float", "approve(0, 0, 9)", "approve(0, 1, 8)", "approve(0, 2, 0)")
            .and("setDriver(0, 6)")
            .seen("approvedShare()", 2.0f / 3.0f)
            .and("setDriver(0, 14)")
            .seen("approvedShare()", 1.0f / 3.0f)
            .and("approve(0, 3, 0)", "approve(0, 4, 0)", "approve(0, 5, 0)", "approve(0, 6, 0)")
            .seen("approvedShare()", 5.0f / 7.0f);
    }

    private static void ofAllLinesAndMonths() {
        Run run = Run.with("divided by that of all approvals: 120", "addDriver(5)");
        for (int line = 0; line < 10; line++) {
            run.and("addLine('d', 0, 0)");
            for (int month = 0; month < 12; month++) {
                run.and("approve(" + line + ", " + month + ", " + (line == 9 && month == 11 ? 1 : 0) + ")");
            }
        }
        run.due("approvedShare()", 1.0f)
            .due("setDriver(0, 6)", 119)
            .due("approvedShare()", 1.0f / 120.0f)
            .and("approve(0, 0, 0)")
            .due("approvedShare()", 2.0f / 120.0f)
            .due("setDriver(0, 8)", 2)
            .due("approvedShare()", 0.0f);
    }

    private static void thoseThatWereReplacedLeftOut() {
        one("those that were replaced left out", "approve(0, 0, 0)", "approve(0, 1, 0)", "setDriver(0, 6)")
            .and("approve(0, 0, 0)")
            .seen("approvedShare()", 0.5f)
            .and("approve(0, 0, 0)", "approve(0, 0, 1)")
            .seen("approvedShare()", 0.5f)
            .and("approve(0, 1, 0)")
            .seen("approvedShare()", 1.0f);
    }

    private static void throwsIfThereAreNoApprovals() {
        new Run("ArithmeticException if there are no approvals: a new object")
            .throwing("approvedShare()", Thrown.ARITHMETIC);
        one("ArithmeticException if there are no approvals", "actual(0, 0, 7)")
            .throwing("approvedShare()", Thrown.ARITHMETIC)
            .throwing("approve(0, 0, 10000)", Thrown.ARGUMENT)
            .throwing("approvedShare()", Thrown.ARITHMETIC)
            .and("approve(0, 0, 0)")
            .seen("approvedShare()", 1.0f)
            .and("setDriver(0, 6)", "takeActual(0, 0)")
            .seen("approvedShare()", 0.0f);
    }
}
