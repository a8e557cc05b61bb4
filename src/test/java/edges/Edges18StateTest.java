/** The edges that the document names in promise 18, state. */
public final class Edges18StateTest {
    public static void main(String[] args) {
        approvedOpenAgainOrNeverApproved();
        ofEachLineAndMonth();
        throwsIfThereIsNoSuchLine();
        throwsIfThereIsNoSuchMonth();
        Run.end();
    }

    private static Run one(String name, String... calls) {
        return Run.with(name, "addDriver(5)", "addLine('d', 0, 0)").and(calls);
    }

    private static void approvedOpenAgainOrNeverApproved() {
        one("Returns 'a' approved, 'o' open again, '-' never approved")
            .seen("state(0, 0)", '-')
            .and("setDriver(0, 9)")
            .seen("state(0, 0)", '-')
            .and("approve(0, 0, 2)")
            .seen("state(0, 0)", 'a')
            .and("setDriver(0, 11)")
            .seen("state(0, 0)", 'a')
            .and("setDriver(0, 12)")
            .seen("state(0, 0)", 'o')
            .and("setDriver(0, 9)")
            .seen("state(0, 0)", 'o')
            .and("approve(0, 0, 2)")
            .seen("state(0, 0)", 'a');
    }

    private static void ofEachLineAndMonth() {
        Run run = Run.with("how a line is approved for a month: each", "addDriver(5)");
        for (int line = 0; line < 10; line++) {
            run.and("addLine('d', 0, 0)");
        }
        for (int line = 0; line < 10; line += 9) {
            for (int month = 0; month < 12; month += 11) {
                run.seen("state(" + line + ", " + month + ")", '-')
                    .and("approve(" + line + ", " + month + ", 0)")
                    .seen("state(" + line + ", " + month + ")", 'a');
            }
        }
        run.seen("state(0, 1)", '-').seen("state(1, 0)", '-').seen("state(8, 11)", '-').seen("state(9, 10)", '-')
            .due("setDriver(0, 6)", 4)
            .seen("state(9, 11)", 'o')
            .seen("state(9, 10)", '-');
    }

    private static void throwsIfThereIsNoSuchLine() {
        one("IndexOutOfBoundsException if there is no such line", "addLine('d', 0, 0)")
            .throwingEach(Thrown.INDEX, "state(2, 0)", "state(-1, 0)", "state(9, 0)", "state(10, 0)",
                "state(-2147483648, 0)", "state(2147483647, 0)")
            .seen("state(1, 0)", '-');
    }

    private static void throwsIfThereIsNoSuchMonth() {
        one("IndexOutOfBoundsException if there is no such month", "addLine('d', 0, 0)")
            .throwingEach(Thrown.INDEX, "state(0, 12)", "state(1, -1)", "state(0, -1)", "state(0, -2147483648)",
                "state(0, 2147483647)")
            .seen("state(0, 0)", '-')
            .seen("state(0, 11)", '-');
    }
}
