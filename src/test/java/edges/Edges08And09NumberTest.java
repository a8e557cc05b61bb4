/** The edges that the document names in the promises 8 and 9, number and numberByHand. */
public final class Edges08And09NumberTest {
    public static void main(String[] args) {
        for (String call : new String[] {"number", "numberByHand"}) {
            theFirstAndTheLast(call);
            throwsIfThereIsNoSuchScenario(call);
            throwsIfThereIsNoSuchLine(call);
            throwsIfThereIsNoSuchMonth(call);
            throwsIfThereIsNone(call);
            theFirstExceptionIsThrown(call);
        }
        returnsTheSameNumber();
        Run.end();
    }

    private static Run two(String name) {
        return Run.with(name, "addDriver(5)", "addDriver(6)", "addDriver(7)", "addLine('d', 0, 0)",
            "addLine('d', 1, 0)", "addScenario(0)", "differ(1, 1, 0, 100)");
    }

    private static void theFirstAndTheLast(String call) {
        Run run = Run.with("found from line to line", "addDriver(1)", "addScenario(0)", "addScenario(1)",
            "addScenario(2)", "differ(3, 0, 11, 1)", "addLine('d', 0, 0)");
        for (int line = 1; line < 10; line++) {
            run.and("addLine('s', " + (line - 1) + ", " + (line - 1) + ")");
        }
        run.seen(call + "(0, 0, 0)", 1)
            .seen(call + "(3, 0, 0)", 1)
            .seen(call + "(3, 0, 11)", 2)
            .seen(call + "(0, 9, 0)", 512)
            .seen(call + "(3, 9, 10)", 512)
            .seen(call + "(3, 9, 11)", 1024);
    }

    private static void throwsIfThereIsNoSuchScenario(String call) {
        two("IndexOutOfBoundsException if there is no such scenario")
            .throwingEach(Thrown.INDEX, call + "(2, 0, 0)", call + "(-1, 0, 0)", call + "(3, 0, 0)", call + "(4, 0, 0)",
                call + "(-2147483648, 0, 0)", call + "(2147483647, 0, 0)")
            .seen(call + "(0, 1, 0)", 6)
            .seen(call + "(1, 1, 0)", 106);
    }

    private static void throwsIfThereIsNoSuchLine(String call) {
        two("IndexOutOfBoundsException if there is no such line")
            .throwingEach(Thrown.INDEX, call + "(0, 2, 0)", call + "(0, -1, 0)", call + "(0, 9, 0)", call + "(0, 10, 0)",
                call + "(0, -2147483648, 0)", call + "(0, 2147483647, 0)")
            .seen(call + "(0, 0, 0)", 5)
            .seen(call + "(0, 1, 0)", 6);
    }

    private static void throwsIfThereIsNoSuchMonth(String call) {
        two("IndexOutOfBoundsException if there is no such month")
            .throwingEach(Thrown.INDEX, call + "(0, 0, -1)", call + "(0, 0, 12)", call + "(0, 0, -2147483648)",
                call + "(0, 0, 2147483647)")
            .seen(call + "(0, 0, 0)", 5)
            .seen(call + "(0, 0, 11)", 5);
    }

    /** Line 2 has one up to 3162 alone, for which it is 99964003. */
    private static Run quick(String name) {
        return Run.with(name, "addDriver(3162)", "addLine('d', 0, 0)", "addLine('p', 0, 0)", "addLine('p', 1, 1)",
            "addScenario(0)", "differ(1, 0, 5, 1)");
    }

    private static void throwsIfThereIsNone(String call) {
        quick("UnsupportedOperationException if there is none")
            .seen(call + "(0, 2, 0)", 99964003)
            .seen(call + "(0, 2, 11)", 99964003)
            .seen(call + "(1, 2, 4)", 99964003)
            .throwing(call + "(1, 2, 5)", Thrown.UNSUPPORTED)
            .throwing(call + "(1, 2, 11)", Thrown.UNSUPPORTED)
            .seen(call + "(1, 1, 11)", 100045)
            .due("setDriver(0, 3163)", 0)
            .throwing(call + "(0, 2, 0)", Thrown.UNSUPPORTED)
            .throwing(call + "(0, 2, 11)", Thrown.UNSUPPORTED);
    }

    private static void theFirstExceptionIsThrown(String call) {
        quick("the one that is documented first: no such scenario, line or month, and none")
            .and("setDriver(0, 9999)")
            .throwingEach(Thrown.INDEX, call + "(2, 2, 0)", call + "(-1, 2, 0)", call + "(0, 3, 0)", call + "(0, 2, 12)",
                call + "(0, 2, -1)")
            .throwing(call + "(0, 2, 0)", Thrown.UNSUPPORTED);
    }

    private static void returnsTheSameNumber() {
        Run run = Run.with("Returns the same number", "addDriver(9999)", "addDriver(50)", "addDriver(300)",
            "addLine('d', 0, 0)", "addLine('d', 1, 0)", "addLine('p', 0, 0)", "addLine('p', 2, 2)", "addLine('s', 3, 1)",
            "addLine('d', 2, 0)", "addLine('m', 1, 5)", "addLine('p', 6, 5)", "addLine('s', 7, 2)", "addLine('m', 4, 8)",
            "addScenario(0)", "differ(1, 0, 6, -999)", "differ(1, 1, 3, 999)", "pass()", "actual(3, 1, -44)");
        Object none = Thrown.UNSUPPORTED;
        Object[] base = {9999, 50, 999800, none, none, 300, -250, -750, 999050, none};
        Object[] baseWithActual = {9999, 50, 999800, -44, 6, 300, -250, -750, 999050, -999044};
        Object[] third = {9999, 1049, 999800, none, none, 300, 749, 2247, 1002047, none};
        Object[] sixth = {9000, 1049, 810000, none, none, 300, 749, 2247, 812247, none};
        for (String call : new String[] {"number", "numberByHand"}) {
            for (int line = 0; line < 10; line++) {
                run.due(call + "(0, " + line + ", 0)", base[line])
                    .due(call + "(1, " + line + ", 0)", base[line])
                    .due(call + "(0, " + line + ", 1)", baseWithActual[line])
                    .due(call + "(1, " + line + ", 3)", third[line])
                    .due(call + "(1, " + line + ", 6)", sixth[line]);
            }
        }
    }
}
