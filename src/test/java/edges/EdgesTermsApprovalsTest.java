/** The edges that the document names in "Terms: Approvals". */
public final class EdgesTermsApprovalsTest {
    public static void main(String[] args) {
        theNumberInTheBaseIsKept();
        theNumberThenIsKept();
        inPlaceOfThoseOfAnEarlierApproval();
        openByMoreThanTheTolerance();
        openWithTheTolerance0();
        openWithTheTolerance9999();
        openByActuals();
        openByDriftsThatAddUp();
        openWhenThereIsNoNumber();
        staysOpenWhenTheNumberIsBack();
        openUntilTheLineIsApprovedForThisMonthAnew();
        aRefusedApprovalLeavesItOpen();
        theBaseAloneCounts();
        eachMonthIsLookedAt();
        eachLineIsLookedAt();
        otherCallsOpenNone();
        Run.end();
    }

    private static Run one(String name, int value, String... calls) {
        return Run.with(name, "addDriver(" + value + ")", "addLine('d', 0, 0)").and(calls);
    }

    private static void theNumberInTheBaseIsKept() {
        one("its number in the base then ... kept", 100, "addScenario(0)", "differ(1, 0, 0, 50)")
            .due("approve(0, 0, 0)", 100)
            .seen("drift(0, 0)", 0)
            .due("setDriver(0, 150)", 1)
            .seen("drift(0, 0)", 50);
    }

    private static void theNumberThenIsKept() {
        one("its number ... then ... kept", 100)
            .due("approve(0, 0, 5)", 100)
            .due("setDriver(0, 105)", 0)
            .seen("drift(0, 0)", 5)
            .due("approve(0, 1, 5)", 105)
            .seen("drift(0, 0)", 5)
            .seen("drift(0, 1)", 0);
    }

    private static void inPlaceOfThoseOfAnEarlierApproval() {
        one("in place of those of an earlier approval", 100, "approve(0, 0, 5)", "setDriver(0, 104)")
            .due("approve(0, 0, 2)", 104)
            .seen("drift(0, 0)", 0)
            .seen("meanTolerance()", 2.0)
            .due("setDriver(0, 102)", 0)
            .due("setDriver(0, 101)", 1)
            .seen("open()", 1)
            .seen("approvedShare()", 0.0f);
    }

    private static void openByMoreThanTheTolerance() {
        String name = "it differs from the kept one by more than the tolerance";
        one(name + ": more", 100, "approve(0, 0, 7)")
            .due("setDriver(0, 107)", 0).seen("state(0, 0)", 'a')
            .due("setDriver(0, 108)", 1).seen("state(0, 0)", 'o');
        one(name + ": less", 100, "approve(0, 0, 7)")
            .due("setDriver(0, 93)", 0).seen("state(0, 0)", 'a')
            .due("setDriver(0, 92)", 1).seen("state(0, 0)", 'o');
    }

    private static void openWithTheTolerance0() {
        one("by more than the tolerance: 0", 100, "approve(0, 0, 0)")
            .due("setDriver(0, 100)", 0).seen("state(0, 0)", 'a')
            .due("setDriver(0, 101)", 1).seen("state(0, 0)", 'o');
        one("by more than the tolerance: 0", 100, "approve(0, 0, 0)").due("setDriver(0, 99)", 1)
            .seen("state(0, 0)", 'o');
    }

    private static void openWithTheTolerance9999() {
        one("by more than the tolerance: 9999", 0, "addLine('s', 0, 0)", "approve(0, 0, 9999)", "approve(1, 0, 9999)")
            .due("setDriver(0, 4999)", 0).seen("state(1, 0)", 'a')
            .due("setDriver(0, 5000)", 1).seen("state(1, 0)", 'o')
            .due("setDriver(0, 9999)", 0).seen("state(0, 0)", 'a');
        one("by more than the tolerance: 9999, down", 9999, "approve(0, 0, 9999)")
            .due("setDriver(0, 0)", 0).seen("state(0, 0)", 'a').seen("drift(0, 0)", -9999)
            .due("actual(0, 0, -1)", 1).seen("state(0, 0)", 'o').seen("drift(0, 0)", -10000);
    }

    private static void openByActuals() {
        one("behind a call: actual", 100, "addLine('s', 0, 0)", "approve(1, 0, 7)")
            .due("actual(0, 0, 103)", 0).seen("state(1, 0)", 'a')
            .due("actual(0, 0, 104)", 1).seen("state(1, 0)", 'o');
        one("behind a call: takeActual", 100, "addLine('s', 0, 0)", "actual(0, 0, 96)", "approve(1, 0, 8)")
            .due("takeActual(0, 0)", 0).seen("state(1, 0)", 'a');
        one("behind a call: takeActual", 100, "addLine('s', 0, 0)", "actual(0, 0, 96)", "approve(1, 0, 7)")
            .due("takeActual(0, 0)", 1).seen("state(1, 0)", 'o');
    }

    private static void openByDriftsThatAddUp() {
        one("it differs from the kept one, not from the one before", 100, "approve(0, 0, 2)")
            .due("setDriver(0, 101)", 0)
            .due("setDriver(0, 102)", 0)
            .due("setDriver(0, 103)", 1);
    }

    /** Line 4 lies at the end of the range in month 0, and beyond it if the driver is greater. */
    private static Run atTheEnd(String name, int sign) {
        return Run.with(name, "addDriver(9)", "addLine('d', 0, 0)", "addLine('d', 0, 0)", "addLine('d', 0, 0)",
            "addLine('p', 1, 2)", "addLine('" + (sign > 0 ? 's' : 'm') + "', 3, 0)",
            "actual(1, 0, " + 9999999 * sign + ")", "actual(2, 0, 1000)");
    }

    private static void openWhenThereIsNoNumber() {
        String name = "when, behind a call, there is no number of the line in the base and this month";
        atTheEnd(name, 1).due("approve(4, 0, 9999)", 99999999)
            .due("setDriver(0, 10)", 1)
            .seen("state(4, 0)", 'o')
            .throwing("drift(4, 0)", Thrown.UNSUPPORTED);
        atTheEnd(name, -1).due("approve(4, 0, 9999)", -99999999)
            .due("setDriver(0, 10)", 1)
            .seen("state(4, 0)", 'o')
            .throwing("drift(4, 0)", Thrown.UNSUPPORTED);
        atTheEnd(name + ": actual", 1).due("approve(4, 0, 9999)", 99999999)
            .due("actual(0, 0, 9)", 0)
            .due("actual(0, 0, 10)", 1)
            .seen("state(4, 0)", 'o');
        atTheEnd(name + ": takeActual", 1).and("setDriver(0, 10)", "actual(0, 0, 9)")
            .due("approve(4, 0, 9999)", 99999999)
            .due("takeActual(0, 0)", 1)
            .seen("state(4, 0)", 'o');
    }

    private static void staysOpenWhenTheNumberIsBack() {
        one("and stays so", 100, "approve(0, 0, 0)")
            .due("setDriver(0, 101)", 1)
            .due("setDriver(0, 100)", 0)
            .seen("drift(0, 0)", 0)
            .seen("state(0, 0)", 'o')
            .due("setDriver(0, 101)", 0)
            .seen("open()", 1);
        atTheEnd("and stays so, when there is a number again", 1).and("approve(4, 0, 9999)", "setDriver(0, 10)")
            .due("setDriver(0, 9)", 0)
            .seen("drift(4, 0)", 0)
            .seen("state(4, 0)", 'o')
            .due("setDriver(0, 10)", 0)
            .seen("open()", 1);
    }

    private static void openUntilTheLineIsApprovedForThisMonthAnew() {
        one("until the line is approved for this month anew", 100, "addLine('d', 0, 0)", "approve(0, 3, 0)",
                "setDriver(0, 200)")
            .due("approve(0, 2, 0)", 200).seen("state(0, 3)", 'o')
            .due("approve(0, 4, 0)", 200).seen("state(0, 3)", 'o')
            .due("approve(1, 3, 0)", 200).seen("state(0, 3)", 'o')
            .due("approve(0, 3, 0)", 200).seen("state(0, 3)", 'a')
            .due("setDriver(0, 200)", 0).seen("state(0, 3)", 'a')
            .seen("open()", 0);
    }

    private static void aRefusedApprovalLeavesItOpen() {
        atTheEnd("until ... approved ... anew, not by a refused call", 1)
            .and("approve(4, 0, 9999)", "setDriver(0, 10)")
            .throwing("approve(4, 0, 5)", Thrown.UNSUPPORTED)
            .throwing("approve(4, 0, 10000)", Thrown.ARGUMENT)
            .throwing("approve(4, 12, 5)", Thrown.INDEX)
            .seen("state(4, 0)", 'o')
            .seen("meanTolerance()", 9999.0);
    }

    private static void theBaseAloneCounts() {
        one("no number ... in the base, or it differs", 0, "addLine('p', 0, 0)", "addLine('p', 1, 1)",
                "addScenario(0)", "approve(0, 0, 0)", "approve(2, 0, 0)")
            .due("differ(1, 0, 0, 999)", 1)
            .due("differ(1, 0, 0, 999)", 2)
            .due("differ(1, 0, 0, 999)", 3)
            .due("differ(1, 0, 0, 999)", 4)
            .throwing("number(1, 2, 0)", Thrown.UNSUPPORTED)
            .due("setDriver(0, 0)", 0)
            .seen("state(0, 0)", 'a')
            .seen("state(2, 0)", 'a')
            .seen("open()", 0);
    }

    private static void eachMonthIsLookedAt() {
        String name = "no number of the line in ... this month, or it differs";
        Run all = one(name + ": each", 100);
        for (int month = 0; month < 12; month++) {
            all.due("approve(0, " + month + ", " + month + ")", 100);
        }
        for (int month = 0; month < 12; month++) {
            all.due("setDriver(0, " + (101 + month) + ")", 1).seen("state(0, " + month + ")", 'o');
        }
        one(name + ": the actual's own month alone", 100, "pass()", "pass()", "approve(0, 0, 0)", "approve(0, 1, 0)",
                "approve(0, 2, 0)")
            .due("actual(0, 1, 101)", 1)
            .seen("state(0, 0)", 'a')
            .seen("state(0, 1)", 'o')
            .seen("state(0, 2)", 'a');
        one(name + ": a month with an actual", 100, "actual(0, 0, 100)", "approve(0, 0, 0)", "approve(0, 1, 0)")
            .due("setDriver(0, 101)", 1)
            .seen("state(0, 0)", 'a')
            .seen("state(0, 1)", 'o');
    }

    private static void eachLineIsLookedAt() {
        Run run = Run.with("no number of the line, or it differs: each", "addDriver(100)");
        for (int line = 0; line < 10; line++) {
            run.and("addLine('d', 0, 0)", "approve(" + line + ", 11, " + line + ")");
        }
        for (int line = 0; line < 10; line++) {
            run.due("setDriver(0, " + (99 - line) + ")", 1).seen("state(" + line + ", 11)", 'o');
        }
    }

    private static void otherCallsOpenNone() {
        one("open again ... when ... no number ... or it differs: other calls open none", 100, "approve(0, 0, 0)",
                "pass()", "addDriver(0)", "addLine('s', 0, 0)", "addScenario(0)", "differ(1, 0, 0, 5)",
                "approve(1, 0, 0)", "approve(0, 1, 0)", "number(1, 0, 0)", "effect(1, 0, 0, 0)", "year(1, 1)",
                "seek(0, 0, 0, 999)")
            .seen("open()", 0)
            .seen("state(0, 0)", 'a')
            .seen("approvedShare()", 1.0f);
    }
}
