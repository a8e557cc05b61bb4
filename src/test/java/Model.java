import java.util.ArrayList;
import java.util.HashMap;
import java.util.List;
import java.util.Map;
import java.util.NoSuchElementException;

/** The document once more, as slow and as near to its words as can be, to compare the program with. */
public final class Model {
    private record Difference(int scenario, int driver, int from, int number) {
    }

    private record Line(char kind, int one, int other) {
    }

    private record Place(int line, int month) {
    }

    private static final class Approval {
        private final long kept;
        private final int tolerance;
        private boolean open;

        private Approval(long kept, int tolerance) {
            this.kept = kept;
            this.tolerance = tolerance;
        }
    }

    private final List<Integer> drivers = new ArrayList<>();
    private final List<Integer> parents = new ArrayList<>();
    private final List<Difference> differences = new ArrayList<>();
    private final List<Line> lines = new ArrayList<>();
    private final Map<Place, Integer> actuals = new HashMap<>();
    private final Map<Place, Approval> approvals = new HashMap<>();
    private int present;

    public Model() {
        parents.add(-1);
    }

    public int addDriver(int value) {
        within(value, 0, 9999);
        if (drivers.size() == 6) {
            throw new IllegalStateException();
        }
        drivers.add(value);
        return drivers.size() - 1;
    }

    public int setDriver(int driver, int value) {
        index(driver, drivers.size());
        within(value, 0, 9999);
        drivers.set(driver, value);
        return openAgain();
    }

    public int driver(int scenario, int driver, int month) {
        index(scenario, parents.size());
        index(driver, drivers.size());
        index(month, 12);
        return value(scenario, driver, month);
    }

    public int addLine(char kind, int one, int other) {
        if ("dsmp".indexOf(kind) < 0) {
            throw new IllegalArgumentException();
        }
        index(one, kind == 'd' ? drivers.size() : lines.size());
        if (kind != 'd') {
            index(other, lines.size());
        }
        if (lines.size() == 10) {
            throw new IllegalStateException();
        }
        lines.add(new Line(kind, one, other));
        return lines.size() - 1;
    }

    public int addScenario(int parent) {
        index(parent, parents.size());
        if (parents.size() == 4) {
            throw new IllegalStateException();
        }
        parents.add(parent);
        return parents.size() - 1;
    }

    public int differ(int scenario, int driver, int from, int number) {
        driver(scenario, driver, from);
        within(number, -999, 999);
        if (scenario == 0) {
            throw new UnsupportedOperationException();
        }
        if (differences.size() == 12) {
            throw new IllegalStateException();
        }
        differences.add(new Difference(scenario, driver, from, number));
        return (int) differences.stream().filter(d -> d.scenario() == scenario).count();
    }

    public int number(int scenario, int line, int month) {
        index(scenario, parents.size());
        index(line, lines.size());
        index(month, 12);
        return (int) there(find(scenario, line, month, 6));
    }

    public int numberByHand(int scenario, int line, int month) {
        return number(scenario, line, month);
    }

    public long year(int scenario, int line) {
        long sum = 0;
        for (int month = 0; month < 12; month++) {
            sum += number(scenario, line, month);
        }
        return sum;
    }

    public int effect(int scenario, int driver, int line, int month) {
        index(scenario, parents.size());
        index(driver, drivers.size());
        index(line, lines.size());
        index(month, 12);
        return (int) (there(find(scenario, line, month, driver + 1)) - there(find(scenario, line, month, driver)));
    }

    public int seek(int driver, int line, int month, int goal) {
        index(driver, drivers.size());
        index(line, lines.size());
        index(month, 12);
        int before = drivers.get(driver);
        int least = -1;
        for (int value = 0; value < 1000 && least < 0; value++) {
            drivers.set(driver, value);
            Long number = find(0, line, month, 0);
            if (number != null && number >= goal) {
                least = value;
            }
        }
        drivers.set(driver, before);
        if (least < 0) {
            throw new NoSuchElementException();
        }
        return least;
    }

    public int actual(int line, int month, int number) {
        index(line, lines.size());
        index(month, 12);
        within(month, 0, present);
        within(number, -9999999, 9999999);
        actuals.put(new Place(line, month), number);
        return openAgain();
    }

    public int takeActual(int line, int month) {
        index(line, lines.size());
        index(month, 12);
        if (actuals.remove(new Place(line, month)) == null) {
            throw new NoSuchElementException();
        }
        return openAgain();
    }

    public int pass() {
        if (present == 11) {
            throw new IllegalStateException();
        }
        return ++present;
    }

    public int month() {
        return present;
    }

    public int approve(int line, int month, int tolerance) {
        index(line, lines.size());
        index(month, 12);
        within(tolerance, 0, 9999);
        long number = there(find(0, line, month, 6));
        approvals.put(new Place(line, month), new Approval(number, tolerance));
        return (int) number;
    }

    public char state(int line, int month) {
        index(line, lines.size());
        index(month, 12);
        Approval approval = approvals.get(new Place(line, month));
        return approval == null ? '-' : approval.open ? 'o' : 'a';
    }

    public int drift(int line, int month) {
        if (state(line, month) == '-') {
            throw new NoSuchElementException();
        }
        return (int) (there(find(0, line, month, 6)) - approvals.get(new Place(line, month)).kept);
    }

    public int open() {
        return (int) approvals.values().stream().filter(a -> a.open).count();
    }

    public float approvedShare() {
        if (approvals.isEmpty()) {
            throw new ArithmeticException();
        }
        return (float) (approvals.size() - open()) / (float) approvals.size();
    }

    public double meanTolerance() {
        if (approvals.isEmpty()) {
            throw new ArithmeticException();
        }
        return (double) approvals.values().stream().mapToInt(a -> a.tolerance).sum() / (double) approvals.size();
    }

    private int openAgain() {
        int before = open();
        approvals.forEach((place, approval) -> {
            Long number = find(0, place.line(), place.month(), 6);
            if (number == null || Math.abs(number - approval.kept) > approval.tolerance) {
                approval.open = true;
            }
        });
        return open() - before;
    }

    private int value(int scenario, int driver, int month) {
        int value = drivers.get(driver);
        for (int s = scenario; s >= 0; s = parents.get(s)) {
            for (Difference d : differences) {
                if (d.scenario() == s && d.driver() == driver && d.from() <= month) {
                    value += d.number();
                }
            }
        }
        return value;
    }

    /** Null if there is none. */
    private Long find(int scenario, int line, int month, int counted) {
        Integer told = actuals.get(new Place(line, month));
        if (told != null) {
            return (long) told;
        }
        Line l = lines.get(line);
        if (l.kind() == 'd') {
            return (long) (l.one() < counted ? value(scenario, l.one(), month) : drivers.get(l.one()));
        }
        Long one = find(scenario, l.one(), month, counted);
        Long other = find(scenario, l.other(), month, counted);
        if (one == null || other == null) {
            return null;
        }
        long result = switch (l.kind()) {
            case 's' -> one + other;
            case 'm' -> one - other;
            default -> one * other / 100;
        };
        return Math.abs(result) > 99999999 ? null : result;
    }

    private static long there(Long number) {
        if (number == null) {
            throw new UnsupportedOperationException();
        }
        return number;
    }

    private static void index(int index, int size) {
        if (index < 0 || index >= size) {
            throw new IndexOutOfBoundsException();
        }
    }

    private static void within(int value, int least, int most) {
        if (value < least || value > most) {
            throw new IllegalArgumentException();
        }
    }
}
