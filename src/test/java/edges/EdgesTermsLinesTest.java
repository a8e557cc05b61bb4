/** The edges that the document names in "Terms: Lines". */
public final class EdgesTermsLinesTest {
    public static void main(String[] args) {
        atMost10LinesAreNumberedFrom0();
        aLineIsOfOneOfFourKinds();
        kindDHasTheValueOfADriver();
        hasTwoLinesWithLowerNumbers();
        orTwiceTheSameOne();
        sumAndDifferenceInTheirOrder();
        theProductIsRoundedTowards0();
        Run.end();
    }

    private static void atMost10LinesAreNumberedFrom0() {
        Run run = Run.with("At most 10 lines are numbered from 0", "addDriver(7)");
        for (int line = 0; line < 10; line++) {
            run.throwing("state(" + line + ", 0)", Thrown.INDEX)
                .due("addLine('d', 0, 0)", line)
                .seen("state(" + line + ", 0)", '-');
        }
        run.throwing("addLine('d', 0, 0)", Thrown.STATE)
            .throwing("addLine('s', 0, 9)", Thrown.STATE)
            .throwing("state(10, 0)", Thrown.INDEX)
            .throwing("state(-1, 0)", Thrown.INDEX);
    }

    private static void aLineIsOfOneOfFourKinds() {
        String name = "A line is of the kind 'd', 's', 'm', 'p'";
        Run run = Run.with(name, "addDriver(7)")
            .due("addLine('d', 0, 0)", 0)
            .due("addLine('s', 0, 0)", 1)
            .due("addLine('m', 0, 0)", 2)
            .due("addLine('p', 0, 0)", 3);
        for (char other : "cetrlnoqDSMP -0,'\u0000\u00e4\uffff".toCharArray()) {
            run.throwing("addLine('" + other + "', 0, 0)", Thrown.ARGUMENT);
        }
        for (int sign = 0; sign <= Character.MAX_VALUE; sign++) {
            if ("dsmp".indexOf(sign) < 0) {
                Run.with(name + ", no other sign", "addDriver(7)", "addLine('d', 0, 0)")
                    .answering("addLine('" + (char) sign + "', 0, 0)", Thrown.ARGUMENT)
                    .answering("state(1, 0)", Thrown.INDEX);
            }
        }
    }

    private static void kindDHasTheValueOfADriver() {
        Run run = new Run("the kind 'd', and has the value of a driver");
        for (int driver = 0; driver < 6; driver++) {
            run.due("addDriver(" + driver * 1999 + ")", driver).due("addLine('d', " + driver + ", 0)", driver);
        }
        for (int line = 0; line < 6; line++) {
            run.seen("number(0, " + line + ", 0)", line * 1999);
        }
        run.due("setDriver(0, 9999)", 0).seen("number(0, 0, 11)", 9999)
            .due("setDriver(5, 0)", 0).seen("number(0, 5, 11)", 0);
    }

    private static void hasTwoLinesWithLowerNumbers() {
        Run run = Run.with("two lines with lower numbers", "addDriver(1)");
        for (String kind : new String[] {"s", "m", "p"}) {
            run.throwing("addLine('" + kind + "', 0, 0)", Thrown.INDEX);
        }
        run.and("addLine('d', 0, 0)", "addLine('d', 0, 0)");
        int next = 2;
        for (String kind : new String[] {"s", "m", "p"}) {
            String add = "addLine('" + kind + "', ";
            run.throwing(add + next + ", 0)", Thrown.INDEX)
                .throwing(add + "0, " + next + ")", Thrown.INDEX)
                .throwing(add + next + ", " + next + ")", Thrown.INDEX)
                .due(add + (next - 1) + ", 0)", next)
                .due(add + "0, " + next + ")", next + 1);
            next += 2;
        }
    }

    private static void orTwiceTheSameOne() {
        Run.with("or twice the same one", "addDriver(70)", "addLine('d', 0, 0)")
            .due("addLine('s', 0, 0)", 1)
            .due("addLine('m', 0, 0)", 2)
            .due("addLine('p', 0, 0)", 3)
            .due("addLine('s', 3, 3)", 4)
            .seen("number(0, 1, 0)", 140)
            .seen("number(0, 2, 0)", 0)
            .seen("number(0, 3, 0)", 49)
            .seen("number(0, 4, 0)", 98);
    }

    private static void sumAndDifferenceInTheirOrder() {
        Run.with("'s', their sum; 'm', the first one minus the second one", "addDriver(30)", "addDriver(200)",
                "addLine('d', 0, 0)", "addLine('d', 1, 0)", "addLine('s', 0, 1)", "addLine('s', 1, 0)",
                "addLine('m', 0, 1)", "addLine('m', 1, 0)")
            .seen("number(0, 2, 0)", 230)
            .seen("number(0, 3, 0)", 230)
            .seen("number(0, 4, 0)", -170)
            .seen("number(0, 5, 0)", 170);
    }

    private static void theProductIsRoundedTowards0() {
        int[][] products = {{0, 9999, 0}, {1, 1, 0}, {1, 99, 0}, {1, 100, 1}, {1, 199, 1}, {1, 200, 2}, {3, 33, 0},
            {10, 10, 1}, {-1, 1, 0}, {-1, 99, 0}, {-1, 100, -1}, {-1, 101, -1}, {-1, 199, -1}, {-1, 200, -2},
            {-7, -15, 1}, {-1, -99, 0}, {-1, -100, 1}, {-1, -199, 1}};
        Run run = Run.with("'p', their product divided by 100, rounded towards 0", "addDriver(0)",
            "addLine('d', 0, 0)", "addLine('d', 0, 0)", "addLine('p', 0, 1)", "addLine('p', 1, 0)");
        for (int[] product : products) {
            run.due("actual(0, 0, " + product[0] + ")", 0)
                .due("actual(1, 0, " + product[1] + ")", 0)
                .seen("number(0, 2, 0)", product[2])
                .seen("numberByHand(0, 2, 0)", product[2])
                .seen("number(0, 3, 0)", product[2]);
        }
    }
}
