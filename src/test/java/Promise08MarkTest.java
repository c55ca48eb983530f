public final class Promise08MarkTest {
    public static void main(String[] args) {
        arguments();
        anyNumberOfSteps();
        Check.end();
    }

    private static void arguments() {
        PileMarker x = new PileMarker();
        x.make(1);
        x.make(0);
        x.root(0, 0);
        x.set(0, 0, 1);
        refuseAll(x);
        Check.dueDone("mark(0) without a cycle", () -> x.mark(0));
        Check.dueDone("mark(5000) without a cycle", () -> x.mark(5000));
        x.root(0, PileMarker.NONE);
        x.begin();
        refuseAll(x);
        Check.dueDone("mark(0)", () -> x.mark(0));
        Check.dueDone("mark(5000)", () -> x.mark(5000));
        Check.dueDone("mark(5000) with nothing more to do", () -> x.mark(5000));
        Check.due("finish(): nothing marked without a cycle", 0, x::finish);
        refuseAll(x);
        String before = Check.seen(x);
        x.mark(5000);
        Check.dueYes("mark(5000) when finished does nothing", true, before.equals(Check.seen(x)));
    }

    private static void refuseAll(PileMarker x) {
        int[] wrong = {-1, 5001, Integer.MAX_VALUE, Integer.MIN_VALUE};
        for (int n : wrong) {
            Check.refused(x, "mark(" + n + ")", IllegalArgumentException.class, () -> { x.mark(n); return 0; });
        }
    }

    /** A chain with changes behind the marker's back, after each number of steps. */
    private static void anyNumberOfSteps() {
        for (int steps = 0; steps <= 60; steps++) {
            PileMarker x = new PileMarker();
            x.pile(1 + steps % 3);
            for (int k = 0; k < 10; k++) {
                x.make(2);
            }
            for (int k = 0; k < 8; k++) {
                x.set(k, 0, k + 1);
            }
            x.root(steps % 16, 0);
            x.begin();
            x.mark(steps);
            // 8 hangs on 0 now, which may have been gone through already.
            x.set(0, 1, 8);
            x.set(7, 0, PileMarker.NONE);
            x.set(8, 1, 9);
            x.mark(steps);
            Check.due("finish() after " + steps + " steps", -1, x::finish);
            Check.due("lost() after " + steps + " steps", 0, x::lost);
            Check.due("count(2)", 10, () -> x.count(2));
            x.begin();
            x.mark(steps);
            Check.due("finish() of the quiet cycle", 10, x::finish);
        }
    }
}
