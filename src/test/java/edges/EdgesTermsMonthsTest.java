/** The edges that the document names in "Terms: Months", and the number of calls of an object. */
public final class EdgesTermsMonthsTest {
    private static final String[] CALLS_WITH_A_MONTH = {"driver(0, 0, %d)", "differ(1, 0, %d, 1)", "number(0, 0, %d)",
        "numberByHand(0, 0, %d)", "effect(0, 0, 0, %d)", "seek(0, 0, %d, 5)", "actual(0, %d, 7)", "takeActual(0, %d)",
        "approve(0, %d, 0)", "state(0, %d)", "drift(0, %d)"};

    public static void main(String[] args) {
        theMonthsAre0To11();
        thePresentMonthIs0AtFirst();
        anObjectIsUsedForAtMost512Calls();
        Run.end();
    }

    private static void theMonthsAre0To11() {
        for (String call : CALLS_WITH_A_MONTH) {
            String name = "The months are 0 to 11: " + call;
            Run run = Run.with(name, "addDriver(7)", "addLine('d', 0, 0)", "addScenario(0)");
            for (int month = 1; month < 12; month++) {
                run.due("pass()", month);
            }
            run.and("actual(0, 0, 7)", "actual(0, 11, 7)", "approve(0, 0, 0)", "approve(0, 11, 0)");
            for (int month : new int[] {-1, 12, Integer.MIN_VALUE, Integer.MAX_VALUE}) {
                run.throwing(call.replace("%d", "" + month), Thrown.INDEX);
            }
            run.and(call.replace("%d", "0"), call.replace("%d", "11"));
        }
    }

    private static void thePresentMonthIs0AtFirst() {
        Run.with("the present month is 0 at first", "addDriver(7)", "addLine('d', 0, 0)")
            .seen("month()", 0)
            .throwing("actual(0, 1, 7)", Thrown.ARGUMENT)
            .due("actual(0, 0, 7)", 0)
            .due("pass()", 1);
    }

    /** The last of them is answered as the first is. */
    private static void anObjectIsUsedForAtMost512Calls() {
        Run looks = Run.with("used for at most 512 calls: looks", "addDriver(7)", "addLine('d', 0, 0)");
        for (int call = 3; call <= 512; call++) {
            looks.answering("seek(0, 0, 11, 999)", 999);
        }
        Run refusals = Run.with("used for at most 512 calls: refusals", "addDriver(7)");
        for (int call = 2; call < 512; call++) {
            refusals.answering(call % 2 == 0 ? "addDriver(-1)" : "addLine('x', 0, 0)", Thrown.ARGUMENT);
        }
        refusals.due("addDriver(8)", 1);
        Run changes = Run.with("used for at most 512 calls: changes", "addDriver(0)", "addLine('d', 0, 0)",
            "approve(0, 0, 0)");
        for (int call = 4; call < 512; call += 2) {
            changes.due("setDriver(0, " + call + ")", 1).due("approve(0, 0, 1)", call);
        }
        changes.due("setDriver(0, 0)", 1);
        Run actuals = Run.with("used for at most 512 calls: actuals", "addDriver(3)", "addLine('d', 0, 0)",
            "addLine('s', 0, 0)", "approve(1, 0, 3)");
        for (int call = 5; call < 511; call += 2) {
            actuals.due("actual(0, 0, " + (3 + call % 2) + ")", 0).due("takeActual(0, 0)", 0);
        }
        actuals.due("actual(0, 0, 5)", 1).due("open()", 1);
    }
}
