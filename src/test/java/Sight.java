/** All that the calls that only look can tell of an object, as one text. */
final class Sight {
    private static final int MONTHS = 12;

    private final StringBuilder text = new StringBuilder();

    private Sight() {
    }

    static String of(CostStudio studio) {
        Sight sight = new Sight();
        for (int month = 0; month < MONTHS; month++) {
            sight.drivers(studio, month);
            sight.lines(studio, month);
        }
        sight.text.append(" month ").append(studio.month()).append(" open ").append(studio.open());
        try {
            sight.text.append(' ').append(studio.approvedShare()).append(' ').append(studio.meanTolerance());
        } catch (ArithmeticException e) {
            sight.text.append(" no approvals");
        }
        return sight.text.toString();
    }

    private void drivers(CostStudio studio, int month) {
        for (int scenario = 0; scenario < 4; scenario++) {
            for (int driver = 0; driver < 6; driver++) {
                try {
                    text.append(studio.driver(scenario, driver, month)).append(' ');
                } catch (IndexOutOfBoundsException e) {
                    text.append("- ");
                }
            }
        }
    }

    private void lines(CostStudio studio, int month) {
        for (int line = 0; line < 10; line++) {
            for (int scenario = 0; scenario < 4; scenario++) {
                try {
                    text.append(studio.number(scenario, line, month)).append(' ');
                } catch (IndexOutOfBoundsException e) {
                    text.append("- ");
                } catch (UnsupportedOperationException e) {
                    text.append("none ");
                }
            }
            approval(studio, line, month);
        }
    }

    private void approval(CostStudio studio, int line, int month) {
        try {
            text.append(studio.state(line, month)).append(studio.drift(line, month)).append(' ');
        } catch (IndexOutOfBoundsException e) {
            text.append("- ");
        } catch (java.util.NoSuchElementException e) {
            text.append("never ");
        } catch (UnsupportedOperationException e) {
            text.append("none ");
        }
    }
}
