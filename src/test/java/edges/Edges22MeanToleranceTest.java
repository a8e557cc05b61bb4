/** The edges that the document names in promise 22, meanTolerance. */
public final class Edges22MeanToleranceTest {
    public static void main(String[] args) {
        theLeastAndTheGreatestTolerance();
        convertedToDouble();
        ofAllLinesAndMonths();
        openAgainOrNot();
        thoseThatWereReplacedLeftOut();
        throwsIfThereAreNoApprovals();
        Run.end();
    }

    private static Run one(String name, String... calls) {
        return Run.with(name, "addDriver(5)", "addLine('d', 0, 0)").and(calls);
    }

    private static void theLeastAndTheGreatestTolerance() {
        one("the mean tolerance: 0", "approve(0, 0, 0)").seen("meanTolerance()", 0.0)
            .and("approve(0, 11, 0)").seen("meanTolerance()", 0.0);
        one("the mean tolerance: 9999", "approve(0, 0, 9999)").seen("meanTolerance()", 9999.0)
            .and("approve(0, 11, 9999)").seen("meanTolerance()", 9999.0);
    }

    private static void convertedToDouble() {
        one("both converted to double", "approve(0, 0, 1)", "approve(0, 1, 0)")
            .seen("meanTolerance()", 0.5)
            .and("approve(0, 2, 0)")
            .seen("meanTolerance()", 1.0 / 3.0)
            .and("approve(0, 3, 9999)", "approve(0, 4, 9998)", "approve(0, 5, 1)", "approve(0, 6, 1)")
            .seen("meanTolerance()", 20000.0 / 7.0);
    }

    private static void ofAllLinesAndMonths() {
        Run run = Run.with("divided by their number: 120", "addDriver(5)");
        for (int line = 0; line < 10; line++) {
            run.and("addLine('d', 0, 0)");
            for (int month = 0; month < 12; month++) {
                run.and("approve(" + line + ", " + month + ", 9999)");
            }
        }
        run.due("meanTolerance()", 9999.0)
            .and("approve(9, 11, 9998)")
            .due("meanTolerance()", (9999.0 * 120 - 1) / 120.0)
            .and("approve(0, 0, 0)")
            .due("meanTolerance()", (9999.0 * 119 - 1) / 120.0);
    }

    private static void openAgainOrNot() {
        one("of the approvals, open again or not", "approve(0, 0, 1)", "approve(0, 1, 4)", "setDriver(0, 7)")
            .seen("open()", 1)
            .seen("meanTolerance()", 2.5)
            .and("setDriver(0, 9999)")
            .seen("open()", 2)
            .seen("meanTolerance()", 2.5);
    }

    private static void thoseThatWereReplacedLeftOut() {
        one("those that were replaced left out", "approve(0, 0, 8)", "approve(0, 1, 4)")
            .and("approve(0, 0, 2)")
            .seen("meanTolerance()", 3.0)
            .and("setDriver(0, 9999)", "approve(0, 0, 0)")
            .seen("meanTolerance()", 2.0)
            .and("approve(0, 0, 0)")
            .seen("meanTolerance()", 2.0);
    }

    private static void throwsIfThereAreNoApprovals() {
        new Run("ArithmeticException if there are no approvals: a new object")
            .throwing("meanTolerance()", Thrown.ARITHMETIC);
        one("ArithmeticException if there are no approvals", "actual(0, 0, 7)")
            .throwing("meanTolerance()", Thrown.ARITHMETIC)
            .throwing("approve(0, 12, 4)", Thrown.INDEX)
            .throwing("meanTolerance()", Thrown.ARITHMETIC)
            .and("approve(0, 0, 4)")
            .seen("meanTolerance()", 4.0)
            .and("setDriver(0, 6)", "takeActual(0, 0)")
            .seen("meanTolerance()", 4.0);
    }
}
