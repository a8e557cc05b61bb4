/** All that the calls that only look can tell of an object, as one text. */
final class Sight {
    private static final int MONTHS = 12;

    private final CostStudio studio;
    private final StringBuilder text = new StringBuilder();

    private Sight(CostStudio studio) {
        this.studio = studio;
    }

    static String of(CostStudio studio) {
        Sight sight = new Sight(studio);
        int scenarios = sight.countScenarios();
        int lines = sight.countLines();
        for (int month = 0; month < MONTHS; month++) {
            for (int scenario = 0; scenario < scenarios; scenario++) {
                sight.drivers(scenario, month);
                sight.numbers(scenario, lines, month);
            }
            sight.approvals(lines, month);
        }
        sight.text.append(" month ").append(studio.month()).append(" open ").append(studio.open());
        try {
            sight.text.append(' ').append(studio.approvedShare()).append(' ').append(studio.meanTolerance());
        } catch (ArithmeticException e) {
            sight.text.append(" no approvals");
        }
        return sight.text.toString();
    }

    /** Without a driver none can be seen. */
    private int countScenarios() {
        int count = 0;
        try {
            for (; count < 4; count++) {
                studio.driver(count, 0, 0);
            }
        } catch (IndexOutOfBoundsException e) {
            text.append(count).append(" scenarios ");
        }
        return count;
    }

    private int countLines() {
        int count = 0;
        try {
            for (; count < 10; count++) {
                studio.state(count, 0);
            }
        } catch (IndexOutOfBoundsException e) {
            text.append(count).append(" lines ");
        }
        return count;
    }

    private void drivers(int scenario, int month) {
        try {
            for (int driver = 0; driver < 6; driver++) {
                text.append(studio.driver(scenario, driver, month)).append(' ');
            }
        } catch (IndexOutOfBoundsException e) {
            text.append("- ");
        }
    }

    private void numbers(int scenario, int lines, int month) {
        for (int line = 0; line < lines; line++) {
            try {
                text.append(studio.number(scenario, line, month)).append(' ');
            } catch (UnsupportedOperationException e) {
                text.append("none ");
            }
        }
    }

    private void approvals(int lines, int month) {
        for (int line = 0; line < lines; line++) {
            char state = studio.state(line, month);
            text.append(state);
            try {
                text.append(state == '-' ? 0 : studio.drift(line, month)).append(' ');
            } catch (UnsupportedOperationException e) {
                text.append("none ");
            }
        }
    }
}
