import java.util.ArrayList;
import java.util.Collections;
import java.util.List;
import java.util.function.Supplier;

/**
 * All that can be told of an object behind some calls. It is made anew for it, as often as it takes:
 * nothing is promised of an object after its 512th call.
 */
final class Sight {
    static final int MOST_CALLS = 512;

    private static final int MONTHS = 12;
    private static final int LINES = 10;
    private static final int DRIVERS = 6;
    private static final int SCENARIOS = 4;
    private static final List<String> LOOKS = looks();
    /**
     * What the looks leave hidden is told by calls that change the object. The shorter ones come first, so that
     * with less room the answers are a beginning of those with more.
     */
    private static final List<List<String>> PROBES = List.of(links(), fillings(), takings());

    private Sight() {
    }

    /** The answers of all looks and probes on an object that has had these calls. */
    static List<Object> of(Supplier<Object> maker, List<String> calls) {
        List<Object> answers = new ArrayList<>();
        int room = MOST_CALLS - calls.size();
        if (room <= 0) {
            return answers;
        }
        for (int from = 0; from < LOOKS.size(); from += room) {
            answer(maker, calls, LOOKS.subList(from, Math.min(LOOKS.size(), from + room)), answers);
        }
        for (List<String> probe : PROBES) {
            if (probe.size() <= room) {
                answer(maker, calls, probe, answers);
            }
        }
        return answers;
    }

    private static void answer(Supplier<Object> maker, List<String> calls, List<String> looks, List<Object> answers) {
        Object target = maker.get();
        for (String call : calls) {
            Calls.answer(target, call);
        }
        for (String look : looks) {
            answers.add(look + " -> " + Calls.answer(target, look));
        }
    }

    private static List<String> looks() {
        List<String> looks = new ArrayList<>(List.of("month()", "open()", "approvedShare()", "meanTolerance()"));
        for (int month = 0; month < MONTHS; month++) {
            for (int line = 0; line < LINES; line++) {
                looks.add("state(" + line + ", " + month + ")");
                looks.add("drift(" + line + ", " + month + ")");
            }
            for (int scenario = 0; scenario < SCENARIOS; scenario++) {
                for (int driver = 0; driver < DRIVERS; driver++) {
                    looks.add("driver(" + scenario + ", " + driver + ", " + month + ")");
                }
                for (int line = 0; line < LINES; line++) {
                    looks.add("number(" + scenario + ", " + line + ", " + month + ")");
                }
            }
        }
        return looks;
    }

    /** Which parents the scenarios have, and how the lines are linked. */
    private static List<String> links() {
        List<String> calls = new ArrayList<>();
        calls.addAll(List.of("differ(1, 0, 0, 1)", "differ(2, 0, 0, 20)", "differ(3, 0, 0, 300)"));
        for (int scenario = 0; scenario < SCENARIOS; scenario++) {
            calls.add("driver(" + scenario + ", 0, 11)");
        }
        for (int driver = 0; driver < DRIVERS; driver++) {
            calls.add("setDriver(" + driver + ", " + (100 + 17 * driver) + ")");
        }
        for (int line = 0; line < LINES; line++) {
            calls.add("number(0, " + line + ", 0)");
            calls.add("number(0, " + line + ", 11)");
        }
        return calls;
    }

    /** How much room there still is for drivers, scenarios, differences, lines and months. */
    private static List<String> fillings() {
        List<String> calls = new ArrayList<>(Collections.nCopies(DRIVERS + 1, "addDriver(1)"));
        calls.addAll(Collections.nCopies(SCENARIOS, "addScenario(0)"));
        calls.addAll(List.of("differ(2, 0, 0, 1)", "differ(3, 0, 0, 1)"));
        calls.addAll(Collections.nCopies(13, "differ(1, 0, 0, 1)"));
        calls.addAll(Collections.nCopies(LINES + 1, "addLine('d', 0, 0)"));
        calls.addAll(Collections.nCopies(MONTHS, "pass()"));
        return calls;
    }

    /** Which actuals there are, and, with small numbers everywhere then, which numbers were kept. */
    private static List<String> takings() {
        List<String> takings = new ArrayList<>();
        List<String> drifts = new ArrayList<>();
        for (int line = 0; line < LINES; line++) {
            for (int month = 0; month < MONTHS; month++) {
                takings.add("takeActual(" + line + ", " + month + ")");
                drifts.add("drift(" + line + ", " + month + ")");
            }
        }
        for (int driver = 0; driver < DRIVERS; driver++) {
            takings.add("setDriver(" + driver + ", 0)");
        }
        takings.addAll(drifts);
        return takings;
    }
}
