import java.util.ArrayList;
import java.util.List;

/** Many runs of calls, long and short, in which the program has to answer every call as the model does. */
public final class ComparisonTest {
    private static final int RUNS = 120;
    private static final int[] CALLS = {Sight.MOST_CALLS, 400, 200, 60};
    private static final int[] ODD = {-2147483648, -1, 2147483647, 12, 13};
    private static final int[] TOLERANCES = {0, 0, 1, 5, 40, 300, 9999, 10000, -1};
    private static final int[] GOALS = {-2147483648, 2147483647, 0, 100, 999, 10000, -500, 99999999, -99999999};

    private long seed;

    private ComparisonTest(int run) {
        seed = run;
    }

    public static void main(String[] args) {
        int wrong = 0;
        for (int run = 1; run <= RUNS && wrong == 0; run++) {
            wrong += new ComparisonTest(run).compare(run);
        }
        System.exit(wrong == 0 ? 0 : 1);
    }

    private int compare(int run) {
        CostStudio studio = new CostStudio();
        Model model = new Model();
        List<String> calls = new ArrayList<>();
        List<String> told = new ArrayList<>();
        int length = CALLS[run % CALLS.length];
        for (int i = 0; i < length; i++) {
            String call = i < 24 ? beginning(i) : any();
            Object due = Calls.answer(model, call);
            Object answer = Calls.answer(studio, call);
            calls.add(call);
            told.add(call + " -> " + answer);
            if (!due.equals(answer)) {
                System.out.println("run " + run + ": " + String.join("\n", told) + "\ndue is " + due);
                return 1;
            }
        }
        return compareSights(run, calls);
    }

    private static int compareSights(int run, List<String> calls) {
        List<Object> due = Sight.of(Model::new, calls);
        List<Object> seen = Sight.of(CostStudio::new, calls);
        for (int i = 0; i < due.size(); i++) {
            if (!due.get(i).equals(seen.get(i))) {
                System.out.println("behind run " + run + ": " + String.join("\n", calls) + "\n" + seen.get(i)
                    + ", due is " + due.get(i));
                return 1;
            }
        }
        return 0;
    }

    /** Drivers, lines and scenarios first, so that the calls after them have something to meet. */
    private String beginning(int i) {
        if (i < 5) {
            return "addDriver(" + value() + ")";
        }
        return i % 3 == 0 ? scenarioCall() : addLine();
    }

    private String any() {
        switch (below(20)) {
            case 0: return below(4) == 0 ? "addDriver(" + value() + ")" : addLine();
            case 1: case 2: case 3: return "setDriver(" + driver() + ", " + value() + ")";
            case 4: return scenarioCall();
            case 5: return "driver(" + scenario() + ", " + driver() + ", " + month() + ")";
            case 6: return "number(" + scenario() + ", " + line() + ", " + month() + ")";
            case 7: return "numberByHand(" + scenario() + ", " + line() + ", " + month() + ")";
            case 8: return "year(" + scenario() + ", " + line() + ")";
            case 9: return "effect(" + scenario() + ", " + driver() + ", " + line() + ", " + month() + ")";
            case 10: return "seek(" + driver() + ", " + line() + ", " + month() + ", " + goal() + ")";
            case 11: case 12: return "actual(" + line() + ", " + toldMonth() + ", " + told() + ")";
            case 13: return "takeActual(" + line() + ", " + toldMonth() + ")";
            case 14: return below(5) == 0 ? "pass()" : "month()";
            case 15: case 16: case 17: return "approve(" + line() + ", " + month() + ", " + pick(TOLERANCES) + ")";
            case 18: return (below(2) == 0 ? "state(" : "drift(") + line() + ", " + month() + ")";
            default: return below(3) == 0 ? "open()" : below(2) == 0 ? "approvedShare()" : "meanTolerance()";
        }
    }

    private String scenarioCall() {
        if (below(3) == 0) {
            return "addScenario(" + scenario() + ")";
        }
        int number = below(8) == 0 ? 1000 * (below(2) * 2 - 1) : below(1999) - 999;
        return "differ(" + scenario() + ", " + driver() + ", " + month() + ", " + number + ")";
    }

    private String addLine() {
        char kind = "dddsssmmpppx".charAt(below(12));
        return "addLine('" + kind + "', " + (kind == 'd' ? driver() : line()) + ", " + line() + ")";
    }

    private int scenario() {
        return below(20) == 0 ? pick(ODD) : below(4);
    }

    private int driver() {
        return below(20) == 0 ? pick(ODD) : below(6);
    }

    private int line() {
        return below(20) == 0 ? pick(ODD) : below(10);
    }

    private int month() {
        return below(20) == 0 ? pick(ODD) : below(12);
    }

    private int toldMonth() {
        return below(4) == 0 ? month() : below(3);
    }

    private int value() {
        switch (below(8)) {
            case 0: return pick(ODD);
            case 1: return 9999 + below(2);
            case 2: case 3: return 100 + below(6);
            default: return below(10000);
        }
    }

    private int told() {
        switch (below(6)) {
            case 0: return 9999999 + below(2);
            case 1: return -9999999 - below(2);
            case 2: return below(200) - 100;
            default: return below(200001) - 100000;
        }
    }

    private int goal() {
        return below(3) == 0 ? pick(GOALS) : below(2) == 0 ? below(2000) : below(2000001) - 1000000;
    }

    private int pick(int[] row) {
        return row[below(row.length)];
    }

    /** Counted on from the number of the run, so that every run of this test is the same. */
    private int below(int bound) {
        seed = seed * 6364136223846793005L + 1442695040888963407L;
        return (int) ((seed >>> 33) % bound);
    }
}
