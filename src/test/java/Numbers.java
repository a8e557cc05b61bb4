/** What the promises 8 and 9 ask of number and of numberByHand in the same words. */
final class Numbers {
    private static final String[] BIG = {"addDriver(9999)", "addDriver(100)", "addDriver(1)", "addLine('d', 0, 0)",
        "addLine('d', 1, 0)", "addLine('d', 2, 0)"};

    private Numbers() {
    }

    static void testAll(String call) {
        findsByKind(call);
        roundsTowardsZero(call);
        staysInRange(call);
        needsNoMoreThanIsNeeded(call);
        takesActualsInEveryScenario(call);
        findsLongChains(call);
        findsInAFullModel(call);
        refuses(call);
    }

    private static void findsByKind(String call) {
        Run.with(call + " by kind", "addDriver(200)", "addDriver(30)", "addLine('d', 0, 99)", "addLine('d', 1, -5)",
                "addLine('s', 0, 1)", "addLine('m', 1, 0)", "addLine('p', 2, 3)", "addScenario(0)",
                "addScenario(1)", "differ(1, 0, 3, 50)", "differ(2, 1, 2, -40)", "differ(2, 0, 5, 1)")
            .seen(call + "(0, 0, 0)", 200)
            .seen(call + "(0, 1, 0)", 30)
            .seen(call + "(0, 2, 11)", 230)
            .seen(call + "(0, 3, 0)", -170)
            .seen(call + "(0, 4, 0)", -391)
            .seen(call + "(1, 2, 2)", 230)
            .seen(call + "(1, 2, 3)", 280)
            .seen(call + "(2, 1, 2)", -10)
            .seen(call + "(2, 4, 5)", -629)
            .seen(call + "(2, 3, 4)", -260);
    }

    private static void roundsTowardsZero(String call) {
        Run.with(call + " of a product", "addDriver(7)", "addDriver(15)", "addDriver(0)", "addLine('d', 0, 0)",
                "addLine('d', 1, 0)", "addLine('d', 2, 0)", "addLine('p', 0, 1)", "addLine('m', 2, 0)",
                "addLine('p', 4, 1)", "addLine('p', 4, 4)", "addLine('p', 2, 4)", "addLine('m', 2, 1)",
                "addLine('p', 8, 4)")
            .seen(call + "(0, 3, 0)", 1)
            .seen(call + "(0, 5, 0)", -1)
            .seen(call + "(0, 6, 0)", 0)
            .seen(call + "(0, 7, 0)", 0)
            .seen(call + "(0, 9, 0)", 1)
            .due("setDriver(0, 20)", 0)
            .seen(call + "(0, 5, 0)", -3)
            .due("setDriver(0, 6)", 0)
            .seen(call + "(0, 5, 0)", 0)
            .due("setDriver(1, 33)", 0)
            .seen(call + "(0, 5, 0)", -1)
            .seen(call + "(0, 9, 0)", 1);
    }

    private static void staysInRange(String call) {
        String none = call + "(0, 6, 0)";
        Run.with(call + " at the ends of its range", BIG)
            .due("actual(0, 0, 9999999)", 0)
            .due("addLine('p', 0, 1)", 3)
            .due("actual(1, 0, 1000)", 0)
            .seen(call + "(0, 3, 0)", 99999990)
            .due("addLine('s', 3, 2)", 4)
            .due("actual(2, 0, 9)", 0)
            .seen(call + "(0, 4, 0)", 99999999)
            .due("actual(2, 0, 10)", 0)
            .seen(call + "(0, 4, 0)", UnsupportedOperationException.class)
            .due("addLine('m', 4, 4)", 5)
            .seen(call + "(0, 5, 0)", UnsupportedOperationException.class)
            .due("addLine('m', 3, 2)", 6)
            .seen(none, 99999980)
            .due("actual(2, 0, -9)", 0)
            .seen(none, 99999999)
            .due("actual(2, 0, -10)", 0)
            .seen(none, UnsupportedOperationException.class);
        Run.with(call + " at the lower end", BIG)
            .due("actual(0, 0, -9999999)", 0)
            .due("actual(1, 0, 1000)", 0)
            .due("addLine('p', 0, 1)", 3)
            .due("addLine('s', 3, 2)", 4)
            .due("addLine('m', 3, 2)", 5)
            .due("actual(2, 0, -9)", 0)
            .seen(call + "(0, 4, 0)", -99999999)
            .seen(call + "(0, 5, 0)", -99999981)
            .due("actual(2, 0, -10)", 0)
            .seen(call + "(0, 4, 0)", UnsupportedOperationException.class)
            .due("actual(2, 0, 10)", 0)
            .seen(call + "(0, 5, 0)", UnsupportedOperationException.class);
        Run.with(call + " of a product beyond an int", BIG)
            .due("actual(0, 0, 9999999)", 0)
            .due("addLine('p', 0, 1)", 3)
            .due("actual(1, 0, 1000)", 0)
            .due("addLine('p', 3, 3)", 4)
            .due("addLine('p', 3, 0)", 5)
            .seen(call + "(0, 4, 0)", UnsupportedOperationException.class)
            .seen(call + "(0, 5, 0)", UnsupportedOperationException.class)
            .due("actual(1, 0, 1001)", 0)
            .seen(call + "(0, 3, 0)", UnsupportedOperationException.class)
            .due("actual(1, 0, 42949673)", IllegalArgumentException.class)
            .due("actual(1, 0, 4294968)", 0)
            .seen(call + "(0, 3, 0)", UnsupportedOperationException.class);
    }

    private static void needsNoMoreThanIsNeeded(String call) {
        Run.with(call + " past what is not needed", BIG)
            .due("addLine('p', 0, 0)", 3)
            .due("addLine('p', 3, 3)", 4)
            .due("addLine('m', 4, 4)", 5)
            .due("addLine('p', 2, 4)", 6)
            .due("addLine('s', 0, 1)", 7)
            .due("addLine('p', 4, 8)", IndexOutOfBoundsException.class)
            .due("pass()", 1)
            .seen(call + "(0, 3, 1)", 999800)
            .seen(call + "(0, 4, 1)", UnsupportedOperationException.class)
            .seen(call + "(0, 5, 1)", UnsupportedOperationException.class)
            .seen(call + "(0, 6, 1)", UnsupportedOperationException.class)
            .seen(call + "(0, 7, 1)", 10099)
            .due("actual(5, 1, -3)", 0)
            .seen(call + "(0, 4, 1)", UnsupportedOperationException.class)
            .seen(call + "(0, 5, 1)", -3)
            .seen(call + "(0, 6, 1)", UnsupportedOperationException.class)
            .seen(call + "(0, 5, 0)", UnsupportedOperationException.class)
            .due("actual(4, 1, 500)", 0)
            .seen(call + "(0, 6, 1)", 5)
            .seen(call + "(0, 5, 1)", -3)
            .due("takeActual(5, 1)", 0)
            .seen(call + "(0, 5, 1)", 0)
            .due("takeActual(4, 1)", 0)
            .seen(call + "(0, 5, 1)", UnsupportedOperationException.class);
        Run.with(call + " of zero times none", BIG)
            .due("actual(2, 0, 0)", 0)
            .due("addLine('p', 0, 0)", 3)
            .due("addLine('p', 3, 3)", 4)
            .due("addLine('p', 2, 4)", 5)
            .due("addLine('p', 4, 2)", 6)
            .seen(call + "(0, 5, 0)", UnsupportedOperationException.class)
            .seen(call + "(0, 6, 0)", UnsupportedOperationException.class);
    }

    private static void takesActualsInEveryScenario(String call) {
        Run.with(call + " with actuals", "addDriver(10)", "addLine('d', 0, 0)", "addLine('s', 0, 0)",
                "addScenario(0)", "differ(1, 0, 0, 5)", "pass()")
            .seen(call + "(1, 1, 1)", 30)
            .due("actual(0, 1, -7)", 0)
            .seen(call + "(0, 0, 1)", -7)
            .seen(call + "(1, 0, 1)", -7)
            .seen(call + "(0, 1, 1)", -14)
            .seen(call + "(1, 1, 1)", -14)
            .seen(call + "(1, 1, 0)", 30)
            .seen(call + "(1, 1, 2)", 30)
            .due("actual(1, 0, 0)", 0)
            .seen(call + "(1, 1, 0)", 0)
            .seen(call + "(0, 0, 0)", 10)
            .seen(call + "(1, 0, 0)", 15);
    }

    private static void findsLongChains(String call) {
        Run run = Run.with(call + " of a long chain", "addDriver(10)", "addLine('d', 0, 0)");
        int number = 10;
        for (int line = 1; line < 10; line++) {
            run.due("addLine('s', " + (line - 1) + ", " + (line - 1) + ")", line);
            number += number;
        }
        run.seen(call + "(0, 9, 11)", number)
            .due("setDriver(0, 9999)", 0)
            .seen(call + "(0, 9, 11)", 9999 * 512);
    }

    private static void findsInAFullModel(String call) {
        Run run = Run.with(call + " in a full model", "addDriver(1)", "addDriver(20)", "addDriver(300)",
            "addDriver(4000)", "addDriver(5000)", "addDriver(6000)", "addScenario(0)", "addScenario(1)",
            "addScenario(2)", "addLine('d', 5, 0)", "addLine('d', 4, 0)", "addLine('d', 3, 0)",
            "addLine('d', 2, 0)", "addLine('d', 1, 0)", "addLine('d', 0, 0)", "addLine('s', 0, 1)",
            "addLine('m', 2, 3)", "addLine('p', 6, 7)", "addLine('s', 8, 5)");
        for (int driver = 0; driver < 6; driver++) {
            run.due("differ(3, " + driver + ", 11, " + (driver + 1) + ")", 2 * driver + 1)
                .due("differ(3, " + driver + ", 0, 100)", 2 * driver + 2);
        }
        run.seen(call + "(0, 9, 0)", 11000 * 37 + 1)
            .seen(call + "(2, 9, 11)", 11000 * 37 + 1)
            .seen(call + "(3, 9, 10)", 11200 * 37 + 101)
            .seen(call + "(3, 0, 11)", 6106)
            .seen(call + "(3, 7, 11)", 3701)
            .seen(call + "(3, 9, 11)", 11211 * 3701 / 100 + 102)
            .seen(call + "(3, 4, 11)", 122);
    }

    private static void refuses(String call) {
        Run.with("what " + call + " refuses", "addDriver(10)", "addLine('d', 0, 0)", "addLine('d', 0, 0)",
                "addScenario(0)")
            .seen(call + "(1, 1, 11)", 10)
            .throwing(call + "(2, 0, 0)", IndexOutOfBoundsException.class)
            .throwing(call + "(-1, 0, 0)", IndexOutOfBoundsException.class)
            .throwing(call + "(0, 2, 0)", IndexOutOfBoundsException.class)
            .throwing(call + "(0, -1, 0)", IndexOutOfBoundsException.class)
            .throwing(call + "(0, 0, 12)", IndexOutOfBoundsException.class)
            .throwing(call + "(0, 0, -1)", IndexOutOfBoundsException.class)
            .throwing(call + "(0, 2147483647, 0)", IndexOutOfBoundsException.class);
        Run.with("what " + call + " refuses first", BIG)
            .due("addLine('p', 0, 0)", 3)
            .due("addLine('p', 3, 3)", 4)
            .throwing(call + "(0, 4, 0)", UnsupportedOperationException.class)
            .throwing(call + "(0, 4, 12)", IndexOutOfBoundsException.class)
            .throwing(call + "(1, 4, 0)", IndexOutOfBoundsException.class);
    }
}
