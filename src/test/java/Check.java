import java.util.NoSuchElementException;

/** What the tests share: answers compared with the ones that are due, and the exit code. */
final class Check {
    interface Call {
        long answer();
    }

    interface Act {
        void run();
    }

    private static int wrong = 0;

    private Check() {
    }

    static void due(String call, long want, Call made) {
        String got = outcome(made);
        tell(call, got, Long.toString(want));
    }

    static void dueYes(String call, boolean want, boolean got) {
        tell(call, Boolean.toString(got), Boolean.toString(want));
    }

    static void dueDone(String call, Act made) {
        tell(call, outcome(() -> { made.run(); return 0; }), "0");
    }

    static void dueNoElement(String call, Call made) {
        tell(call, outcome(made), NoSuchElementException.class.getName());
    }

    static void dueBadArgument(String call, Call made) {
        tell(call, outcome(made), IllegalArgumentException.class.getName());
    }

    static void dueBadState(String call, Call made) {
        tell(call, outcome(made), IllegalStateException.class.getName());
    }

    /** The call throws the named exception, and what can be seen of x is as before. */
    static void refused(PileMarker x, String call, Class<? extends RuntimeException> want, Call made) {
        String before = seen(x);
        tell(call, outcome(made), want.getName());
        tell(call + " changes nothing", seen(x), before);
    }

    /** All that can be asked of x without changing it. */
    static String seen(PileMarker x) {
        StringBuilder text = new StringBuilder();
        for (int what = 0; what <= 5; what++) {
            text.append(x.count(what)).append(' ');
        }
        text.append("lost ").append(outcome(x::lost)).append('\n');
        for (int k = 0; k < x.count(0); k++) {
            int object = k;
            text.append(k).append(' ').append(outcome(() -> x.marked(object) ? 1 : 0)).append(':');
            for (int field = 0; field < 21; field++) {
                int place = field;
                text.append(' ').append(outcome(() -> x.get(object, place)));
            }
            text.append('\n');
        }
        return text.toString();
    }

    static void end() {
        System.out.println(wrong == 0 ? "all answers are as due" : wrong + " answers are not as due");
        if (wrong != 0) {
            System.exit(1);
        }
    }

    private static String outcome(Call made) {
        try {
            return Long.toString(made.answer());
        } catch (RuntimeException e) {
            return e.getClass().getName();
        }
    }

    private static void tell(String call, String got, String want) {
        if (!got.equals(want)) {
            wrong++;
            System.out.println(call + " answered " + got + ", due is " + want);
        }
    }
}
