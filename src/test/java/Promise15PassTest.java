/** Promise 15: pass. */
public final class Promise15PassTest {
    public static void main(String[] args) {
        Run run = Run.with("months that pass", "addDriver(10)", "addLine('d', 0, 0)", "approve(0, 5, 0)");
        for (int month = 1; month < 12; month++) {
            run.throwing("actual(0, " + month + ", 10)", IllegalArgumentException.class)
                .due("pass()", month)
                .due("month()", month)
                .due("actual(0, " + month + ", 10)", 0);
        }
        run.throwing("pass()", IllegalStateException.class)
            .throwing("pass()", IllegalStateException.class)
            .due("month()", 11)
            .due("state(0, 5)", 'a')
            .due("actual(0, 0, 11)", 0)
            .due("actual(0, 5, 11)", 1);
        Run.end();
    }
}
