/** Promise 21: approvedShare. */
public final class Promise21ApprovedShareTest {
    public static void main(String[] args) {
        Run.with("the share of the approved", "addDriver(10)", "addLine('d', 0, 0)", "addLine('s', 0, 0)")
            .throwing("approvedShare()", ArithmeticException.class)
            .due("approve(0, 0, 0)", 10)
            .seen("approvedShare()", 1.0f)
            .due("approve(1, 0, 4)", 20)
            .due("approve(1, 1, 4)", 20)
            .seen("approvedShare()", 1.0f)
            .due("setDriver(0, 11)", 1)
            .seen("approvedShare()", 2.0f / 3.0f)
            .due("setDriver(0, 13)", 2)
            .seen("approvedShare()", 0.0f)
            .due("approve(1, 0, 4)", 26)
            .seen("approvedShare()", 1.0f / 3.0f)
            .due("approve(1, 0, 3)", 26)
            .seen("approvedShare()", 1.0f / 3.0f)
            .due("approve(0, 11, 4)", 13)
            .seen("approvedShare()", 0.5f)
            .due("approve(0, 10, 4)", 13)
            .due("approve(0, 9, 4)", 13)
            .due("approve(0, 8, 4)", 13)
            .seen("approvedShare()", 5.0f / 7.0f);
        Run.end();
    }
}
