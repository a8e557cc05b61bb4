/** Promise 16: month. */
public final class Promise16MonthTest {
    public static void main(String[] args) {
        Run run = new Run("the present month").seen("month()", 0).due("addDriver(3)", 0).seen("month()", 0);
        for (int month = 1; month < 12; month++) {
            run.due("pass()", month).seen("month()", month);
        }
        run.due("pass()", IllegalStateException.class).seen("month()", 11);
        Run.end();
    }
}
