/** The edges that the document names in the promises 15 and 16, pass and month. */
public final class Edges15And16MonthTest {
    public static void main(String[] args) {
        returnsThePresentMonthThen();
        throwsIfItIsTheMonth11();
        returnsTheMonth();
        Run.end();
    }

    private static void returnsThePresentMonthThen() {
        Run run = new Run("Returns the present month then");
        for (int month = 1; month < 12; month++) {
            run.due("pass()", month).seen("month()", month);
        }
    }

    private static void throwsIfItIsTheMonth11() {
        Run run = Run.with("IllegalStateException if it is the month 11", "addDriver(5)", "addLine('d', 0, 0)");
        for (int month = 1; month < 11; month++) {
            run.and("pass()");
        }
        run.throwing("actual(0, 11, 1)", Thrown.ARGUMENT)
            .due("pass()", 11)
            .throwing("pass()", Thrown.STATE)
            .throwing("pass()", Thrown.STATE)
            .seen("month()", 11)
            .due("actual(0, 11, 1)", 0)
            .due("actual(0, 0, 1)", 0);
    }

    private static void returnsTheMonth() {
        new Run("Returns the month, at first and behind the first pass")
            .seen("month()", 0)
            .seen("month()", 0)
            .and("pass()")
            .seen("month()", 1)
            .throwing("addDriver(-1)", Thrown.ARGUMENT)
            .seen("month()", 1);
    }
}
