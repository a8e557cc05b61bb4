/** A run of calls on one fresh object, written as in the document, each with the answer that is due. */
final class Run {
    private static int wrong = 0;

    private final String name;
    private final CostStudio studio = new CostStudio();

    Run(String name) {
        this.name = name;
    }

    static Run with(String name, String... calls) {
        Run run = new Run(name);
        for (String call : calls) {
            Object answer = Calls.answer(run.studio, call);
            if (answer instanceof Class) {
                run.report(call, answer, "an answer");
            }
        }
        return run;
    }

    Run due(String call, Object want) {
        Object answer = Calls.answer(studio, call);
        if (!want.equals(answer)) {
            report(call, answer, want);
        }
        return this;
    }

    /** A call that throws changes nothing, so that all that can be seen is looked at before and after it. */
    Run throwing(String call, Class<? extends RuntimeException> want) {
        String before = Sight.of(studio);
        due(call, want);
        if (!before.equals(Sight.of(studio))) {
            report(call, "with a change", "without one");
        }
        return this;
    }

    /** For calls that only look. */
    Run seen(String call, Object want) {
        String before = Sight.of(studio);
        due(call, want);
        if (!before.equals(Sight.of(studio))) {
            report(call, "with a change", "without one");
        }
        return this;
    }

    static void end() {
        if (wrong != 0) {
            System.out.println(wrong + " answers are not as due");
            System.exit(1);
        }
    }

    private void report(String call, Object answer, Object want) {
        wrong++;
        System.out.println(name + ": " + call + " answered " + answer + ", due is " + want);
    }
}
