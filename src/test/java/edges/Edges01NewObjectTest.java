/** The edges that the document names in promise 1. */
public final class Edges01NewObjectTest {
    public static void main(String[] args) {
        theBaseAlone();
        noDriver();
        noLine();
        noActual();
        noApproval();
        noDifference();
        inTheMonth0();
        Run.end();
    }

    private static void theBaseAlone() {
        Run.with("Creates a model with the base alone", "addDriver(1)")
            .seen("driver(0, 0, 0)", 1)
            .throwing("driver(1, 0, 0)", Thrown.INDEX)
            .throwing("differ(1, 0, 0, 0)", Thrown.INDEX)
            .due("addScenario(0)", 1);
    }

    private static void noDriver() {
        new Run("with the base alone: no driver")
            .throwing("driver(0, 0, 0)", Thrown.INDEX)
            .throwing("setDriver(0, 0)", Thrown.INDEX)
            .throwing("addLine('d', 0, 0)", Thrown.INDEX)
            .due("addDriver(0)", 0);
    }

    private static void noLine() {
        Run.with("with the base alone: no line", "addDriver(1)")
            .throwing("number(0, 0, 0)", Thrown.INDEX)
            .throwing("state(0, 0)", Thrown.INDEX)
            .throwing("addLine('s', 0, 0)", Thrown.INDEX)
            .due("addLine('d', 0, 0)", 0);
    }

    private static void noActual() {
        Run run = Run.with("with the base alone: no actual", "addDriver(1)", "addLine('d', 0, 0)");
        for (int month = 0; month < 12; month++) {
            run.throwing("takeActual(0, " + month + ")", Thrown.NO_SUCH);
        }
    }

    private static void noApproval() {
        Run run = Run.with("with the base alone: no approval", "addDriver(1)", "addLine('d', 0, 0)")
            .seen("open()", 0)
            .throwing("approvedShare()", Thrown.ARITHMETIC)
            .throwing("meanTolerance()", Thrown.ARITHMETIC)
            .due("setDriver(0, 9999)", 0);
        for (int month = 0; month < 12; month++) {
            run.seen("state(0, " + month + ")", '-').throwing("drift(0, " + month + ")", Thrown.NO_SUCH);
        }
    }

    private static void noDifference() {
        Run run = Run.with("with the base alone: no difference", "addDriver(1)", "addScenario(0)");
        run.seen("driver(1, 0, 11)", 1);
        for (int difference = 1; difference <= 12; difference++) {
            run.due("differ(1, 0, 0, 0)", difference);
        }
    }

    private static void inTheMonth0() {
        new Run("in the month 0").seen("month()", 0).due("pass()", 1);
    }
}
