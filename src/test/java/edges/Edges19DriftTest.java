/** The edges that the document names in promise 19, drift. */
public final class Edges19DriftTest {
    public static void main(String[] args) {
        sinceItWasApprovedLast();
        openAgainOrNot();
        theGreatestAndTheLeastDrift();
        throwsIfThereIsNoSuchLine();
        throwsIfThereIsNoSuchMonth();
        throwsIfItWasNeverApproved();
        throwsIfThereIsNoNumberNow();
        theFirstExceptionIsThrown();
        Run.end();
    }

    private static Run one(String name, String... calls) {
        return Run.with(name, "addDriver(5)", "addLine('d', 0, 0)").and(calls);
    }

    private static void sinceItWasApprovedLast() {
        one("since it was approved last", "addScenario(0)", "differ(1, 0, 0, 70)", "approve(0, 0, 9)")
            .seen("drift(0, 0)", 0)
            .and("setDriver(0, 9)")
            .seen("drift(0, 0)", 4)
            .and("approve(0, 0, 9)")
            .seen("drift(0, 0)", 0)
            .and("setDriver(0, 6)")
            .seen("drift(0, 0)", -3);
    }

    private static void openAgainOrNot() {
        one("the number now minus the kept one, open again or not", "approve(0, 0, 2)")
            .and("setDriver(0, 7)").seen("state(0, 0)", 'a').seen("drift(0, 0)", 2)
            .and("setDriver(0, 8)").seen("state(0, 0)", 'o').seen("drift(0, 0)", 3)
            .and("setDriver(0, 4)").seen("state(0, 0)", 'o').seen("drift(0, 0)", -1)
            .and("setDriver(0, 5)").seen("state(0, 0)", 'o').seen("drift(0, 0)", 0);
    }

    private static void theGreatestAndTheLeastDrift() {
        Run.with("the number now minus the kept one: the greatest and the least", "addDriver(0)", "addLine('d', 0, 0)",
                "addLine('d', 0, 0)", "addLine('p', 0, 1)", "actual(0, 0, 3333)", "actual(1, 0, 3000300)",
                "approve(2, 0, 9999)", "actual(0, 0, -3333)")
            .seen("drift(2, 0)", -199999998)
            .and("approve(2, 0, 0)", "actual(0, 0, 3333)")
            .seen("drift(2, 0)", 199999998)
            .seen("state(2, 0)", 'o');
    }

    private static void throwsIfThereIsNoSuchLine() {
        one("IndexOutOfBoundsException if there is no such line", "addLine('d', 0, 0)", "approve(0, 0, 0)",
                "approve(1, 0, 0)")
            .throwingEach(Thrown.INDEX, "drift(2, 0)", "drift(-1, 0)", "drift(9, 0)", "drift(10, 0)",
                "drift(-2147483648, 0)", "drift(2147483647, 0)")
            .seen("drift(1, 0)", 0);
    }

    private static void throwsIfThereIsNoSuchMonth() {
        one("IndexOutOfBoundsException if there is no such month", "addLine('d', 0, 0)", "approve(0, 0, 0)",
                "approve(0, 11, 0)", "approve(1, 0, 0)")
            .throwingEach(Thrown.INDEX, "drift(0, 12)", "drift(1, -1)", "drift(0, -1)", "drift(0, -2147483648)",
                "drift(0, 2147483647)")
            .seen("drift(0, 0)", 0)
            .seen("drift(0, 11)", 0);
    }

    private static void throwsIfItWasNeverApproved() {
        one("NoSuchElementException if it was never approved", "addLine('d', 0, 0)", "approve(0, 5, 0)")
            .throwingEach(Thrown.NO_SUCH, "drift(0, 4)", "drift(0, 6)", "drift(1, 5)", "drift(0, 0)", "drift(0, 11)")
            .seen("drift(0, 5)", 0)
            .throwing("approve(0, 4, -1)", Thrown.ARGUMENT)
            .throwing("drift(0, 4)", Thrown.NO_SUCH);
    }

    /** Line 2 has a number up to 3162 alone. */
    private static Run quick(String name) {
        return Run.with(name, "addDriver(3162)", "addLine('d', 0, 0)", "addLine('p', 0, 0)", "addLine('p', 1, 1)",
            "approve(2, 0, 5)", "setDriver(0, 3163)");
    }

    private static void throwsIfThereIsNoNumberNow() {
        quick("UnsupportedOperationException if there is no number now")
            .throwing("drift(2, 0)", Thrown.UNSUPPORTED)
            .and("setDriver(0, 3162)")
            .seen("drift(2, 0)", 0)
            .and("setDriver(0, 3163)")
            .throwing("drift(2, 0)", Thrown.UNSUPPORTED)
            .and("actual(2, 0, 1)")
            .seen("drift(2, 0)", 1 - 99964003);
    }

    private static void theFirstExceptionIsThrown() {
        String name = "the one that is documented first: ";
        one(name + "no such line or month, and never approved")
            .throwingEach(Thrown.INDEX, "drift(1, 0)", "drift(0, 12)", "drift(-1, 0)", "drift(0, -1)");
        quick(name + "no such line or month, and no number now")
            .throwingEach(Thrown.INDEX, "drift(3, 0)", "drift(2, 12)", "drift(2, -1)");
        quick(name + "never approved, and no number now")
            .throwing("drift(2, 1)", Thrown.NO_SUCH)
            .throwing("drift(2, 0)", Thrown.UNSUPPORTED);
    }
}
