import java.util.NoSuchElementException;

/** A cost model of a year, for one planner: see README.md. */
public final class CostStudio {
    private static final int MONTHS = 12;
    private static final int MOST_DRIVERS = 6;
    private static final int MOST_SCENARIOS = 4;
    private static final int MOST_DIFFERENCES = 12;
    private static final int MOST_LINES = 10;
    private static final int CELLS = MOST_LINES * MONTHS;

    private static final int HIGHEST_VALUE = 9999;
    private static final int HIGHEST_DIFFERENCE = 999;
    private static final int HIGHEST_SOUGHT = 999;
    private static final int HIGHEST_ACTUAL = 9999999;
    private static final int HIGHEST_NUMBER = 99999999;
    private static final int HIGHEST_TOLERANCE = 9999;

    private static final int BASE = 0;
    // Beyond every number and every actual, so that one int can say that there is none.
    private static final int NONE = -1000000000;

    private static final char DRIVER = 'd';
    private static final char SUM = 's';
    private static final char MINUS = 'm';
    private static final char PRODUCT = 'p';

    private static final char APPROVED = 'a';
    private static final char OPEN_AGAIN = 'o';
    private static final char NEVER_APPROVED = '-';

    private final int[] driverValues = new int[MOST_DRIVERS];
    private final Scenarios scenarios = new Scenarios();
    private final Lines lines = new Lines();
    private final Approvals approvals = new Approvals();
    // Kept between calls only so that no call makes a row of its own.
    private final int[] inputs = new int[MOST_DRIVERS];
    private int driverCount;
    private int presentMonth;

    public CostStudio() {
    }

    // ---- drivers, lines and scenarios

    public int addDriver(int value) throws IllegalArgumentException, IllegalStateException {
        requireDriverValue(value);
        if (driverCount >= MOST_DRIVERS) {
            throw new IllegalStateException();
        }
        driverValues[driverCount] = value;
        driverCount++;
        return driverCount - 1;
    }

    public int setDriver(int driver, int value) throws IndexOutOfBoundsException, IllegalArgumentException {
        requireDriver(driver);
        requireDriverValue(value);
        driverValues[driver] = value;
        return reopenDrifted();
    }

    public int driver(int scenario, int driver, int month) throws IndexOutOfBoundsException {
        requireScenario(scenario);
        requireDriver(driver);
        requireMonth(month);
        return valueIn(scenario, driver, month);
    }

    public int addLine(char kind, int one, int other)
            throws IllegalArgumentException, IndexOutOfBoundsException, IllegalStateException {
        if (kind != DRIVER && kind != SUM && kind != MINUS && kind != PRODUCT) {
            throw new IllegalArgumentException();
        }
        if (kind == DRIVER) {
            requireDriver(one);
        } else {
            requireLine(one);
            requireLine(other);
        }
        if (lines.count >= MOST_LINES) {
            throw new IllegalStateException();
        }
        return lines.add(kind, one, other);
    }

    public int addScenario(int parent) throws IndexOutOfBoundsException, IllegalStateException {
        requireScenario(parent);
        if (scenarios.count >= MOST_SCENARIOS) {
            throw new IllegalStateException();
        }
        return scenarios.add(parent);
    }

    public int differ(int scenario, int driver, int from, int number) throws IndexOutOfBoundsException,
            IllegalArgumentException, UnsupportedOperationException, IllegalStateException {
        requireScenario(scenario);
        requireDriver(driver);
        requireMonth(from);
        if (number < -HIGHEST_DIFFERENCE || number > HIGHEST_DIFFERENCE) {
            throw new IllegalArgumentException();
        }
        if (scenario == BASE) {
            throw new UnsupportedOperationException();
        }
        if (scenarios.differenceCount >= MOST_DIFFERENCES) {
            throw new IllegalStateException();
        }
        return scenarios.addDifference(scenario, driver, from, number);
    }

    // ---- numbers

    public int number(int scenario, int line, int month)
            throws IndexOutOfBoundsException, UnsupportedOperationException {
        requireScenario(scenario);
        requireLine(line);
        requireMonth(month);
        return required(numberIn(scenario, line, month, MOST_DRIVERS));
    }

    public int numberByHand(int scenario, int line, int month)
            throws IndexOutOfBoundsException, UnsupportedOperationException {
        requireScenario(scenario);
        requireLine(line);
        requireMonth(month);
        fillInputs(scenario, month, MOST_DRIVERS);
        lines.findAll(month, inputs);
        return required(lines.numbers[line]);
    }

    public long year(int scenario, int line) throws IndexOutOfBoundsException, UnsupportedOperationException {
        requireScenario(scenario);
        requireLine(line);
        long sum = 0;
        for (int month = 0; month < MONTHS; month++) {
            sum += required(numberIn(scenario, line, month, MOST_DRIVERS));
        }
        return sum;
    }

    public int effect(int scenario, int driver, int line, int month)
            throws IndexOutOfBoundsException, UnsupportedOperationException {
        requireScenario(scenario);
        requireDriver(driver);
        requireLine(line);
        requireMonth(month);
        int with = required(numberIn(scenario, line, month, driver + 1));
        int without = required(numberIn(scenario, line, month, driver));
        return with - without;
    }

    public int seek(int driver, int line, int month, int goal)
            throws IndexOutOfBoundsException, NoSuchElementException {
        requireDriver(driver);
        requireLine(line);
        requireMonth(month);
        fillInputs(BASE, month, MOST_DRIVERS);
        lines.markNeeded(line, month);
        // A goal can be reached and lost again as a driver grows, so that every value is tried.
        for (int value = 0; value <= HIGHEST_SOUGHT; value++) {
            inputs[driver] = value;
            int number = lines.findNeeded(line, month, inputs);
            if (number != NONE && number >= goal) {
                return value;
            }
        }
        throw new NoSuchElementException();
    }

    // ---- actuals and months

    public int actual(int line, int month, int number)
            throws IndexOutOfBoundsException, IllegalArgumentException {
        requireLine(line);
        requireMonth(month);
        if (month > presentMonth || number < -HIGHEST_ACTUAL || number > HIGHEST_ACTUAL) {
            throw new IllegalArgumentException();
        }
        lines.actuals[cell(line, month)] = number;
        return reopenDrifted();
    }

    public int takeActual(int line, int month) throws IndexOutOfBoundsException, NoSuchElementException {
        requireLine(line);
        requireMonth(month);
        if (lines.actuals[cell(line, month)] == NONE) {
            throw new NoSuchElementException();
        }
        lines.actuals[cell(line, month)] = NONE;
        return reopenDrifted();
    }

    public int pass() throws IllegalStateException {
        if (presentMonth >= MONTHS - 1) {
            throw new IllegalStateException();
        }
        presentMonth++;
        return presentMonth;
    }

    public int month() {
        return presentMonth;
    }

    // ---- approvals

    public int approve(int line, int month, int tolerance)
            throws IndexOutOfBoundsException, IllegalArgumentException, UnsupportedOperationException {
        requireLine(line);
        requireMonth(month);
        if (tolerance < 0 || tolerance > HIGHEST_TOLERANCE) {
            throw new IllegalArgumentException();
        }
        int number = required(numberIn(BASE, line, month, MOST_DRIVERS));
        approvals.keep(cell(line, month), number, tolerance);
        return number;
    }

    public char state(int line, int month) throws IndexOutOfBoundsException {
        requireLine(line);
        requireMonth(month);
        return approvals.states[cell(line, month)];
    }

    public int drift(int line, int month)
            throws IndexOutOfBoundsException, NoSuchElementException, UnsupportedOperationException {
        requireLine(line);
        requireMonth(month);
        if (approvals.states[cell(line, month)] == NEVER_APPROVED) {
            throw new NoSuchElementException();
        }
        int number = required(numberIn(BASE, line, month, MOST_DRIVERS));
        return number - approvals.keptNumbers[cell(line, month)];
    }

    public int open() {
        return approvals.countIn(OPEN_AGAIN);
    }

    public float approvedShare() throws ArithmeticException {
        int approved = approvals.countIn(APPROVED);
        int all = approved + approvals.countIn(OPEN_AGAIN);
        if (all == 0) {
            throw new ArithmeticException();
        }
        return (float) approved / (float) all;
    }

    public double meanTolerance() throws ArithmeticException {
        int all = approvals.countIn(APPROVED) + approvals.countIn(OPEN_AGAIN);
        if (all == 0) {
            throw new ArithmeticException();
        }
        return (double) approvals.sumOfTolerances() / (double) all;
    }

    // ---- what the calls share

    private void requireDriver(int driver) {
        if (driver < 0 || driver >= driverCount) {
            throw new IndexOutOfBoundsException();
        }
    }

    private void requireScenario(int scenario) {
        if (scenario < 0 || scenario >= scenarios.count) {
            throw new IndexOutOfBoundsException();
        }
    }

    private void requireLine(int line) {
        if (line < 0 || line >= lines.count) {
            throw new IndexOutOfBoundsException();
        }
    }

    private static void requireMonth(int month) {
        if (month < 0 || month >= MONTHS) {
            throw new IndexOutOfBoundsException();
        }
    }

    private static void requireDriverValue(int value) {
        if (value < 0 || value > HIGHEST_VALUE) {
            throw new IllegalArgumentException();
        }
    }

    private static int required(int number) {
        if (number == NONE) {
            throw new UnsupportedOperationException();
        }
        return number;
    }

    private static int cell(int line, int month) {
        return line * MONTHS + month;
    }

    private int valueIn(int scenario, int driver, int month) {
        return driverValues[driver] + scenarios.addedTo(scenario, driver, month);
    }

    /** Differences count only for the drivers with numbers below countedDrivers: effects leave the others out. */
    private void fillInputs(int scenario, int month, int countedDrivers) {
        for (int driver = 0; driver < driverCount; driver++) {
            inputs[driver] = driver < countedDrivers ? valueIn(scenario, driver, month) : driverValues[driver];
        }
    }

    private int numberIn(int scenario, int line, int month, int countedDrivers) {
        fillInputs(scenario, month, countedDrivers);
        lines.markNeeded(line, month);
        return lines.findNeeded(line, month, inputs);
    }

    private int reopenDrifted() {
        int reopened = 0;
        for (int month = 0; month < MONTHS; month++) {
            fillInputs(BASE, month, MOST_DRIVERS);
            lines.findAll(month, inputs);
            for (int line = 0; line < lines.count; line++) {
                if (approvals.reopenIfDrifted(cell(line, month), lines.numbers[line])) {
                    reopened++;
                }
            }
        }
        return reopened;
    }

    /** The scenarios, and what their own differences add to each driver in each month. */
    private static final class Scenarios {
        private final int[] parents = new int[MOST_SCENARIOS];
        private final int[] ownDifferences = new int[MOST_SCENARIOS];
        private final int[] added = new int[MOST_SCENARIOS * MOST_DRIVERS * MONTHS];
        private int count = 1;
        private int differenceCount;

        private int add(int parent) {
            parents[count] = parent;
            count++;
            return count - 1;
        }

        private int addDifference(int scenario, int driver, int from, int difference) {
            for (int at = from; at < MONTHS; at++) {
                added[place(scenario, driver, at)] += difference;
            }
            differenceCount++;
            ownDifferences[scenario]++;
            return ownDifferences[scenario];
        }

        private int addedTo(int scenario, int driver, int at) {
            int sum = 0;
            int next = scenario;
            // A parent has a lower number, so that one way down meets them all.
            for (int current = scenario; current > BASE; current--) {
                if (current == next) {
                    sum += added[place(current, driver, at)];
                    next = parents[current];
                }
            }
            return sum;
        }

        private static int place(int scenario, int driver, int at) {
            return (scenario * MOST_DRIVERS + driver) * MONTHS + at;
        }
    }

    /** The lines, their actuals, and the numbers of one month that were found last. */
    private static final class Lines {
        private final char[] kinds = new char[MOST_LINES];
        private final int[] ones = new int[MOST_LINES];
        private final int[] others = new int[MOST_LINES];
        private final int[] actuals = new int[CELLS];
        private final boolean[] needed = new boolean[MOST_LINES];
        private final int[] numbers = new int[MOST_LINES];
        private int count;

        private Lines() {
            for (int i = 0; i < CELLS; i++) {
                actuals[i] = NONE;
            }
        }

        private int add(char kind, int one, int other) {
            kinds[count] = kind;
            ones[count] = one;
            others[count] = other;
            count++;
            return count - 1;
        }

        /** From line to line: each one's own lines have lower numbers, so that one way down marks them all. */
        private void markNeeded(int line, int at) {
            for (int i = 0; i < line; i++) {
                needed[i] = false;
            }
            needed[line] = true;
            for (int i = line; i > 0; i--) {
                if (needed[i] && kinds[i] != DRIVER && actuals[cell(i, at)] == NONE) {
                    needed[ones[i]] = true;
                    needed[others[i]] = true;
                }
            }
        }

        private int findNeeded(int line, int at, int[] inputs) {
            for (int i = 0; i <= line; i++) {
                if (needed[i]) {
                    numbers[i] = found(i, at, inputs);
                }
            }
            return numbers[line];
        }

        private void findAll(int at, int[] inputs) {
            for (int i = 0; i < count; i++) {
                numbers[i] = found(i, at, inputs);
            }
        }

        private int found(int line, int at, int[] inputs) {
            int told = actuals[cell(line, at)];
            if (told != NONE) {
                return told;
            }
            if (kinds[line] == DRIVER) {
                return inputs[ones[line]];
            }
            return combined(kinds[line], numbers[ones[line]], numbers[others[line]]);
        }

        private static int combined(char kind, int first, int second) {
            if (first == NONE || second == NONE) {
                return NONE;
            }
            long result;
            if (kind == SUM) {
                result = (long) first + second;
            } else if (kind == MINUS) {
                result = (long) first - second;
            } else {
                result = (long) first * second / 100;
            }
            return result < -HIGHEST_NUMBER || result > HIGHEST_NUMBER ? NONE : (int) result;
        }
    }

    /** For each line and month the latest approval alone. */
    private static final class Approvals {
        private final char[] states = new char[CELLS];
        private final int[] keptNumbers = new int[CELLS];
        private final int[] tolerances = new int[CELLS];

        private Approvals() {
            for (int i = 0; i < CELLS; i++) {
                states[i] = NEVER_APPROVED;
            }
        }

        private void keep(int cell, int number, int tolerance) {
            states[cell] = APPROVED;
            keptNumbers[cell] = number;
            tolerances[cell] = tolerance;
        }

        private boolean reopenIfDrifted(int cell, int number) {
            if (states[cell] != APPROVED || !isDrifted(cell, number)) {
                return false;
            }
            states[cell] = OPEN_AGAIN;
            return true;
        }

        private boolean isDrifted(int cell, int number) {
            return number == NONE || Math.abs(number - keptNumbers[cell]) > tolerances[cell];
        }

        private int countIn(char wanted) {
            int sum = 0;
            for (int i = 0; i < CELLS; i++) {
                if (states[i] == wanted) {
                    sum++;
                }
            }
            return sum;
        }

        private int sumOfTolerances() {
            int sum = 0;
            for (int i = 0; i < CELLS; i++) {
                // A cell that was never approved still has the tolerance 0.
                sum += tolerances[i];
            }
            return sum;
        }
    }
}
