/** The edges that the document names in "Terms: Numbers", for number and for numberByHand. */
public final class EdgesTermsNumbersTest {
    public static void main(String[] args) {
        for (String call : new String[] {"number", "numberByHand"}) {
            anActualWhateverTheScenario(call);
            anActualOf0IsOneToo(call);
            otherwiseFoundFromItsLines(call);
            aSumInItsRange(call);
            aDifferenceInItsRange(call);
            aProductInItsRange(call);
            aProductThatAnIntCannotHold(call);
            ifOneThatIsNeededIsNotThereIsNone(call);
            aWayBackIntoTheRangeDoesNotCount(call);
            onlyWhatIsNeededIsFound(call);
            aLineWithAnActualNeedsNoOthers(call);
        }
        Run.end();
    }

    private static void anActualWhateverTheScenario(String call) {
        Run run = Run.with("its actual in this month, if there is one, whatever the scenario", "addDriver(10)",
            "addLine('d', 0, 0)", "addLine('s', 0, 0)", "addScenario(0)", "addScenario(1)", "addScenario(2)",
            "differ(1, 0, 0, 1)", "differ(2, 0, 0, 1)", "differ(3, 0, 0, 1)", "pass()", "pass()", "actual(1, 1, -3)", "actual(0, 2, 4)");
        for (int scenario = 0; scenario < 4; scenario++) {
            run.seen(call + "(" + scenario + ", 1, 1)", -3)
                .seen(call + "(" + scenario + ", 1, 0)", 2 * (10 + scenario))
                .seen(call + "(" + scenario + ", 1, 2)", 8)
                .seen(call + "(" + scenario + ", 0, 2)", 4)
                .seen(call + "(" + scenario + ", 1, 3)", 2 * (10 + scenario))
                .seen(call + "(" + scenario + ", 0, 1)", 10 + scenario);
        }
    }

    private static void anActualOf0IsOneToo(String call) {
        Run.with("its actual in this month, if there is one: 0", "addDriver(10)", "addLine('d', 0, 0)",
                "addLine('s', 0, 0)")
            .due("actual(0, 0, 0)", 0)
            .seen(call + "(0, 0, 0)", 0)
            .seen(call + "(0, 1, 0)", 0)
            .due("actual(0, 0, -1)", 0)
            .seen(call + "(0, 0, 0)", -1)
            .seen(call + "(0, 1, 0)", -2)
            .due("takeActual(0, 0)", 0)
            .seen(call + "(0, 1, 0)", 20);
    }

    private static void otherwiseFoundFromItsLines(String call) {
        Run.with("otherwise, it is found by its kind from the numbers of its lines", "addDriver(10)",
                "addLine('d', 0, 0)", "addLine('s', 0, 0)", "addLine('m', 0, 1)", "addLine('p', 1, 2)",
                "actual(1, 0, 1000)")
            .seen(call + "(0, 2, 0)", -990)
            .seen(call + "(0, 3, 0)", -9900)
            .seen(call + "(0, 2, 1)", -10)
            .seen(call + "(0, 3, 1)", -2);
    }

    /** Line 2 is 99999990 or -99999990. */
    private static Run nearTheEnd(String name, int sign) {
        return Run.with(name, "addDriver(0)", "addLine('d', 0, 0)", "addLine('d', 0, 0)", "addLine('p', 0, 1)",
            "addLine('d', 0, 0)", "addLine('s', 2, 3)", "addLine('m', 2, 3)", "addLine('s', 3, 2)",
            "addLine('m', 3, 2)", "actual(0, 0, " + 9999999 * sign + ")", "actual(1, 0, 1000)");
    }

    private static void aSumInItsRange(String call) {
        String name = "must be from -99999999 to 99999999: a sum";
        nearTheEnd(name, 1).seen(call + "(0, 2, 0)", 99999990)
            .due("actual(3, 0, 9)", 0)
            .seen(call + "(0, 4, 0)", 99999999)
            .seen(call + "(0, 6, 0)", 99999999)
            .due("actual(3, 0, 10)", 0)
            .throwing(call + "(0, 4, 0)", Thrown.UNSUPPORTED)
            .throwing(call + "(0, 6, 0)", Thrown.UNSUPPORTED);
        nearTheEnd(name, -1).seen(call + "(0, 2, 0)", -99999990)
            .due("actual(3, 0, -9)", 0)
            .seen(call + "(0, 4, 0)", -99999999)
            .seen(call + "(0, 6, 0)", -99999999)
            .due("actual(3, 0, -10)", 0)
            .throwing(call + "(0, 4, 0)", Thrown.UNSUPPORTED)
            .throwing(call + "(0, 6, 0)", Thrown.UNSUPPORTED);
    }

    private static void aDifferenceInItsRange(String call) {
        String name = "must be from -99999999 to 99999999: a difference";
        nearTheEnd(name, 1).due("actual(3, 0, -9)", 0)
            .seen(call + "(0, 5, 0)", 99999999)
            .seen(call + "(0, 7, 0)", -99999999)
            .due("actual(3, 0, -10)", 0)
            .throwing(call + "(0, 5, 0)", Thrown.UNSUPPORTED)
            .throwing(call + "(0, 7, 0)", Thrown.UNSUPPORTED);
        nearTheEnd(name, -1).due("actual(3, 0, 9)", 0)
            .seen(call + "(0, 5, 0)", -99999999)
            .seen(call + "(0, 7, 0)", 99999999)
            .due("actual(3, 0, 10)", 0)
            .throwing(call + "(0, 5, 0)", Thrown.UNSUPPORTED)
            .throwing(call + "(0, 7, 0)", Thrown.UNSUPPORTED);
    }

    private static Run product(String name) {
        return Run.with(name, "addDriver(0)", "addLine('d', 0, 0)", "addLine('d', 0, 0)", "addLine('p', 0, 1)");
    }

    /** The products are 100 times the end of the range and up to 99 more, which the rounding takes away. */
    private static void aProductInItsRange(String call) {
        Run run = product("must be from -99999999 to 99999999: a product");
        String found = call + "(0, 2, 0)";
        run.and("actual(0, 0, 3333)", "actual(1, 0, 3000300)").seen(found, 99999999)
            .and("actual(0, 0, 99999)", "actual(1, 0, 100001)").seen(found, 99999999)
            .and("actual(0, 0, 100000)", "actual(1, 0, 100000)").throwing(found, Thrown.UNSUPPORTED)
            .and("actual(0, 0, -3333)", "actual(1, 0, 3000300)").seen(found, -99999999)
            .and("actual(0, 0, -99999)", "actual(1, 0, 100001)").seen(found, -99999999)
            .and("actual(0, 0, 99999)", "actual(1, 0, -100001)").seen(found, -99999999)
            .and("actual(0, 0, -100000)", "actual(1, 0, 100000)").throwing(found, Thrown.UNSUPPORTED)
            .and("actual(0, 0, -99999)", "actual(1, 0, -100001)").seen(found, 99999999)
            .and("actual(0, 0, -100000)", "actual(1, 0, -100000)").throwing(found, Thrown.UNSUPPORTED);
    }

    /** The products are 2 to the power of 32, 33 and 34, and a hundred times the first of them. */
    private static void aProductThatAnIntCannotHold(String call) {
        Run run = product("must be from -99999999 to 99999999: a product that an int can't hold");
        String found = call + "(0, 2, 0)";
        run.and("actual(0, 0, 65536)", "actual(1, 0, 65536)").seen(found, 42949672)
            .and("actual(0, 0, -65536)", "actual(1, 0, 131072)").seen(found, -85899345)
            .and("actual(0, 0, 131072)", "actual(1, 0, 131072)").throwing(found, Thrown.UNSUPPORTED)
            .and("actual(0, 0, 6553600)", "actual(1, 0, 65536)").throwing(found, Thrown.UNSUPPORTED)
            .and("actual(0, 0, -6553600)", "actual(1, 0, 65536)").throwing(found, Thrown.UNSUPPORTED)
            .and("actual(0, 0, 9999999)", "actual(1, 0, 9999999)").throwing(found, Thrown.UNSUPPORTED)
            .and("actual(0, 0, -9999999)", "actual(1, 0, 9999999)").throwing(found, Thrown.UNSUPPORTED);
    }

    /** Line 2 has none. */
    private static Run withNone(String name, String... lines) {
        return Run.with(name, "addDriver(9999)", "addDriver(0)", "addLine('d', 0, 0)", "addLine('p', 0, 0)",
            "addLine('p', 1, 1)", "addLine('d', 1, 0)").and(lines);
    }

    private static void ifOneThatIsNeededIsNotThereIsNone(String call) {
        String name = "if one that is needed is not, there is none";
        for (char kind : new char[] {'s', 'm', 'p'}) {
            withNone(name + ": '" + kind + "'", "addLine('" + kind + "', 2, 3)", "addLine('" + kind + "', 3, 2)",
                    "addLine('" + kind + "', 2, 2)", "addLine('s', 3, 4)", "addLine('m', 7, 3)", "addLine('p', 3, 8)")
                .seen(call + "(0, 1, 0)", 999800)
                .seen(call + "(0, 3, 0)", 0)
                .throwing(call + "(0, 2, 0)", Thrown.UNSUPPORTED)
                .throwing(call + "(0, 4, 0)", Thrown.UNSUPPORTED)
                .throwing(call + "(0, 5, 0)", Thrown.UNSUPPORTED)
                .throwing(call + "(0, 6, 0)", Thrown.UNSUPPORTED)
                .throwing(call + "(0, 7, 0)", Thrown.UNSUPPORTED)
                .throwing(call + "(0, 8, 0)", Thrown.UNSUPPORTED)
                .throwing(call + "(0, 9, 0)", Thrown.UNSUPPORTED);
        }
    }

    /** Line 2 is one beyond the range, and line 3 would lie in it again. */
    private static void aWayBackIntoTheRangeDoesNotCount(String call) {
        nearTheEnd("if one that is needed is not, there is none: back in the range", 1)
            .and("addLine('m', 4, 3)", "addLine('s', 7, 4)", "actual(3, 0, 9)")
            .seen(call + "(0, 8, 0)", 99999990)
            .seen(call + "(0, 9, 0)", 18)
            .and("actual(3, 0, 10)")
            .throwing(call + "(0, 8, 0)", Thrown.UNSUPPORTED)
            .throwing(call + "(0, 9, 0)", Thrown.UNSUPPORTED);
    }

    private static void onlyWhatIsNeededIsFound(String call) {
        withNone("Only what is needed is found", "addLine('s', 2, 2)", "addLine('s', 0, 3)", "addLine('m', 5, 1)",
                "addLine('p', 2, 6)")
            .throwing(call + "(0, 2, 0)", Thrown.UNSUPPORTED)
            .throwing(call + "(0, 4, 0)", Thrown.UNSUPPORTED)
            .seen(call + "(0, 0, 0)", 9999)
            .seen(call + "(0, 1, 0)", 999800)
            .seen(call + "(0, 3, 0)", 0)
            .seen(call + "(0, 5, 0)", 9999)
            .seen(call + "(0, 6, 0)", 9999 - 999800)
            .throwing(call + "(0, 7, 0)", Thrown.UNSUPPORTED);
    }

    private static void aLineWithAnActualNeedsNoOthers(String call) {
        withNone("a line with an actual needs no others", "addLine('s', 2, 3)", "addLine('m', 4, 3)",
                "addLine('p', 4, 5)")
            .throwing(call + "(0, 6, 0)", Thrown.UNSUPPORTED)
            .due("actual(4, 0, 300)", 0)
            .seen(call + "(0, 4, 0)", 300)
            .seen(call + "(0, 5, 0)", 300)
            .seen(call + "(0, 6, 0)", 900)
            .throwing(call + "(0, 2, 0)", Thrown.UNSUPPORTED)
            .throwing(call + "(0, 6, 1)", Thrown.UNSUPPORTED)
            .due("takeActual(4, 0)", 0)
            .throwing(call + "(0, 6, 0)", Thrown.UNSUPPORTED)
            .due("actual(6, 0, 5)", 0)
            .seen(call + "(0, 6, 0)", 5)
            .throwing(call + "(0, 5, 0)", Thrown.UNSUPPORTED);
    }
}
