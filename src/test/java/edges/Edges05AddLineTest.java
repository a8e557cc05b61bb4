/** The edges that the document names in promise 5, addLine. */
public final class Edges05AddLineTest {
    private static final char[] OF_TWO_LINES = {'s', 'm', 'p'};

    public static void main(String[] args) {
        theOtherIsOfNoMeaningForD();
        throwsIfThereIsNoSuchKind();
        throwsIfThereIsNoSuchDriver();
        throwsIfThereIsNoSuchFirstLine();
        throwsIfThereIsNoSuchSecondLine();
        aDriverIsNoLine();
        throwsIfThereAre10Lines();
        theFirstExceptionIsThrown();
        Run.end();
    }

    private static void theOtherIsOfNoMeaningForD() {
        Run run = Run.with("the number of its second line, of no meaning for 'd'", "addDriver(5)");
        int[] others = {0, 1, -1, 9, 10, 99, Integer.MIN_VALUE, Integer.MAX_VALUE};
        for (int line = 0; line < others.length; line++) {
            run.due("addLine('d', 0, " + others[line] + ")", line).seen("number(0, " + line + ", 0)", 5);
        }
    }

    private static void throwsIfThereIsNoSuchKind() {
        Run.with("IllegalArgumentException if there is no such kind", "addDriver(5)", "addLine('d', 0, 0)")
            .throwingEach(Thrown.ARGUMENT, "addLine('c', 0, 0)", "addLine('e', 0, 0)", "addLine('D', 0, 0)",
                "addLine('\u0000', 0, 0)", "addLine('a', 0, 0)", "addLine('o', 0, 0)", "addLine('-', 0, 0)")
            .due("addLine('s', 0, 0)", 1);
    }

    private static void throwsIfThereIsNoSuchDriver() {
        Run.with("IndexOutOfBoundsException if there is no such driver", "addDriver(5)", "addDriver(6)")
            .throwingEach(Thrown.INDEX, "addLine('d', 2, 0)", "addLine('d', -1, 0)", "addLine('d', 5, 0)",
                "addLine('d', 6, 0)", "addLine('d', -2147483648, 0)", "addLine('d', 2147483647, 0)")
            .due("addLine('d', 0, 0)", 0)
            .due("addLine('d', 1, 0)", 1)
            .seen("number(0, 1, 0)", 6);
    }

    private static void throwsIfThereIsNoSuchFirstLine() {
        for (char kind : OF_TWO_LINES) {
            String add = "addLine('" + kind + "', ";
            Run.with("IndexOutOfBoundsException if there is ... no such line: the first", "addDriver(5)",
                    "addLine('d', 0, 0)", "addLine('d', 0, 0)")
                .throwingEach(Thrown.INDEX, add + "2, 0)", add + "-1, 0)", add + "9, 0)", add + "10, 0)",
                    add + "-2147483648, 0)", add + "2147483647, 0)")
                .due(add + "1, 0)", 2)
                .due(add + "0, 0)", 3);
        }
    }

    private static void throwsIfThereIsNoSuchSecondLine() {
        for (char kind : OF_TWO_LINES) {
            String add = "addLine('" + kind + "', ";
            Run.with("IndexOutOfBoundsException if there is ... no such line, for either: the second", "addDriver(5)",
                    "addLine('d', 0, 0)", "addLine('d', 0, 0)")
                .throwingEach(Thrown.INDEX, add + "0, 2)", add + "0, -1)", add + "0, 9)", add + "0, 10)",
                    add + "0, -2147483648)", add + "0, 2147483647)", add + "-1, -1)", add + "2, 2)")
                .due(add + "0, 1)", 2)
                .due(add + "0, 0)", 3);
        }
    }

    private static void aDriverIsNoLine() {
        Run.with("the number of its driver for 'd', and of its first line otherwise", "addDriver(5)", "addDriver(6)",
                "addDriver(7)", "addLine('d', 2, 0)")
            .throwingEach(Thrown.INDEX, "addLine('s', 2, 0)", "addLine('s', 0, 2)", "addLine('m', 1, 0)",
                "addLine('p', 0, 1)")
            .due("addLine('s', 0, 0)", 1);
        Run.with("the number of its driver for 'd', not of a line", "addDriver(5)", "addLine('d', 0, 0)",
                "addLine('d', 0, 0)", "addLine('s', 1, 0)")
            .throwingEach(Thrown.INDEX, "addLine('d', 1, 0)", "addLine('d', 2, 0)")
            .due("addLine('d', 0, 0)", 3);
    }

    private static Run withLines(String name, int lines) {
        Run run = Run.with(name, "addDriver(5)");
        for (int line = 0; line < lines; line++) {
            run.due("addLine('d', 0, 0)", line);
        }
        return run;
    }

    private static void throwsIfThereAre10Lines() {
        String name = "IllegalStateException if there are 10 lines";
        withLines(name, 9).due("addLine('s', 8, 8)", 9).seen("number(0, 9, 0)", 10)
            .throwingEach(Thrown.STATE, "addLine('d', 0, 0)", "addLine('s', 9, 9)", "addLine('m', 0, 0)",
                "addLine('p', 0, 9)");
    }

    private static void theFirstExceptionIsThrown() {
        String name = "the one that is documented first: ";
        withLines(name + "no such kind, no such line", 1)
            .throwingEach(Thrown.ARGUMENT, "addLine('x', 1, 0)", "addLine('x', 0, 1)", "addLine('x', -1, -1)");
        withLines(name + "no such kind, 10 lines", 10).throwing("addLine('x', 0, 0)", Thrown.ARGUMENT);
        withLines(name + "no such line or driver, 10 lines", 10)
            .throwingEach(Thrown.INDEX, "addLine('s', 10, 0)", "addLine('m', 0, 10)", "addLine('p', 0, -1)",
                "addLine('d', 1, 0)", "addLine('d', -1, 0)")
            .throwing("addLine('d', 0, 10)", Thrown.STATE);
        withLines(name + "no such kind, no such line, 10 lines", 10).throwing("addLine('x', 10, 10)", Thrown.ARGUMENT);
    }
}
