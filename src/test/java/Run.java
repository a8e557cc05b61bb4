import java.util.ArrayList;
import java.util.List;

/** A run of calls on one fresh object, written as in the document, each with the answer that is due. */
final class Run {
    private static int wrong = 0;

    private final String name;
    private final CostStudio studio = new CostStudio();
    /** The calls that were answered, and so may have changed the object. */
    private final List<String> answered = new ArrayList<>();
    /** What there is to be seen behind them; null when it has not been looked at. */
    private List<Object> sight;
    private int calls;

    Run(String name) {
        this.name = name;
    }

    static Run with(String name, String... calls) {
        return new Run(name).and(calls);
    }

    /** Calls whose answers are of no interest, but that have to have one. */
    Run and(String... calls) {
        for (String call : calls) {
            Object answer = ask(call);
            if (answer instanceof Class) {
                report(call, answer, "an answer");
            }
        }
        return this;
    }

    Run due(String call, Object want) {
        return asked(call, want, want instanceof Class);
    }

    /** The answer alone, where looking around would take too long. */
    Run answering(String call, Object want) {
        return asked(call, want, false);
    }

    /** A call that throws changes nothing. */
    Run throwing(String call, Class<? extends RuntimeException> want) {
        return asked(call, want, true);
    }

    Run throwingEach(Class<? extends RuntimeException> want, String... calls) {
        for (String call : calls) {
            asked(call, want, true);
        }
        return this;
    }

    /** For calls that only look. */
    Run seen(String call, Object want) {
        return asked(call, want, true);
    }

    static void end() {
        if (wrong != 0) {
            System.out.println(wrong + " answers are not as due");
            System.exit(1);
        }
    }

    private Run asked(String call, Object want, boolean changesNothing) {
        if (changesNothing) {
            look(call);
        }
        Object answer = ask(call);
        if (!want.equals(answer)) {
            report(call, answer, want);
        }
        return this;
    }

    private Object ask(String call) {
        calls++;
        if (calls > Sight.MOST_CALLS) {
            report(call, "as call " + calls, "none that late");
        }
        Object answer = Calls.answer(studio, call);
        if (!(answer instanceof Class)) {
            answered.add(call);
            sight = null;
        }
        return answer;
    }

    /** Two fresh objects that have had the same calls, one of them this call too, have to look alike. */
    private void look(String call) {
        if (sight == null) {
            sight = Sight.of(CostStudio::new, answered);
        }
        List<String> more = new ArrayList<>(answered);
        more.add(call);
        List<Object> behind = Sight.of(CostStudio::new, more);
        for (int i = 0; i < sight.size() && i < behind.size(); i++) {
            if (!sight.get(i).equals(behind.get(i))) {
                report(call, "with a change to " + behind.get(i), sight.get(i));
                return;
            }
        }
    }

    private void report(String call, Object answer, Object want) {
        wrong++;
        System.out.println(name + ": " + call + " answered " + answer + ", due is " + want);
    }
}
