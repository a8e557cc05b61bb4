/** Promise 10: year. */
public final class Promise10YearTest {
    private static final Class<IndexOutOfBoundsException> INDEX = IndexOutOfBoundsException.class;
    private static final Class<UnsupportedOperationException> NONE = UnsupportedOperationException.class;

    public static void main(String[] args) {
        sums();
        throwsIfThereIsNoneForAMonth();
        isALong();
        Run.end();
    }

    private static void sums() {
        Run.with("a year", "addDriver(200)", "addDriver(30)", "addLine('d', 0, 0)", "addLine('d', 1, 0)",
                "addLine('s', 0, 1)", "addScenario(0)", "addScenario(1)", "differ(1, 0, 3, 50)",
                "differ(2, 1, 2, -40)", "differ(2, 0, 5, 1)")
            .seen("year(0, 2)", 2760L)
            .seen("year(0, 0)", 2400L)
            .seen("year(1, 2)", 2760L + 9 * 50)
            .seen("year(2, 2)", 2817L)
            .due("actual(2, 0, -1000)", 0)
            .seen("year(0, 2)", 2760L - 1230)
            .seen("year(2, 2)", 2817L - 1230)
            .due("differ(1, 0, 11, 7)", 2)
            .seen("year(2, 0)", 2400L + 9 * 50 + 7 + 7)
            .throwing("year(0, 3)", INDEX)
            .throwing("year(0, -1)", INDEX)
            .throwing("year(3, 0)", INDEX)
            .throwing("year(-1, 0)", INDEX)
            .throwing("year(2147483647, 0)", INDEX);
    }

    private static void throwsIfThereIsNoneForAMonth() {
        Run run = Run.with("a year without a number", "addDriver(0)", "addLine('d', 0, 0)", "addLine('s', 0, 0)",
            "addLine('p', 1, 1)", "addLine('p', 2, 2)", "addScenario(0)", "addScenario(0)");
        for (int i = 0; i < 10; i++) {
            run.due("differ(1, 0, 11, 999)", i + 1);
        }
        run.due("differ(2, 0, 0, 999)", 1)
            .seen("number(1, 3, 10)", 0)
            .throwing("number(1, 3, 11)", NONE)
            .throwing("year(1, 3)", NONE)
            .throwing("year(1, 4)", INDEX)
            .seen("year(1, 2)", 3992004L)
            .seen("year(2, 3)", 12L * 39920 * 39920 / 100)
            .due("setDriver(0, 9000)", 0)
            .throwing("year(2, 3)", NONE)
            .due("actual(3, 0, 5)", 0)
            .throwing("year(2, 3)", NONE);
        for (int month = 1; month < 12; month++) {
            run.due("pass()", month).due("actual(3, " + month + ", " + month + ")", 0);
        }
        run.seen("year(2, 3)", 71L)
            .due("takeActual(3, 0)", 0)
            .throwing("year(2, 3)", NONE);
    }

    private static void isALong() {
        Run.with("a large year", "addDriver(9999)", "addLine('d', 0, 0)", "addLine('p', 0, 0)", "addLine('s', 1, 1)",
                "addLine('s', 2, 2)", "addLine('s', 3, 3)", "addLine('s', 4, 4)", "addLine('s', 5, 5)",
                "addLine('s', 6, 6)")
            .due("number(0, 7, 0)", 63987200)
            .seen("year(0, 7)", 12L * 63987200)
            .due("addLine('s', 7, 6)", 8)
            .seen("year(0, 8)", 12L * 95980800)
            .due("setDriver(0, 0)", 0)
            .seen("year(0, 8)", 0L);
    }
}
