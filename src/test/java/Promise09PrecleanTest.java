public final class Promise09PrecleanTest {
    public static void main(String[] args) {
        arguments();
        anyNumberOfSteps();
        Check.end();
    }

    private static void arguments() {
        PileMarker x = new PileMarker();
        x.make(1);
        x.make(0);
        x.root(0, 0);
        refuseAll(x);
        Check.dueDone("preclean(0) without a cycle", () -> x.preclean(0));
        Check.dueDone("preclean(5000) without a cycle", () -> x.preclean(5000));
        x.begin();
        refuseAll(x);
        Check.dueDone("preclean(0)", () -> x.preclean(0));
        Check.dueDone("preclean(5000)", () -> x.preclean(5000));
        Check.due("finish(): a preclean() is no change", 1, x::finish);
        refuseAll(x);
        String before = Check.seen(x);
        x.preclean(5000);
        Check.dueYes("preclean(5000) when finished does nothing", true, before.equals(Check.seen(x)));
    }

    private static void refuseAll(PileMarker x) {
        int[] wrong = {-1, 5001, Integer.MAX_VALUE, Integer.MIN_VALUE};
        for (int n : wrong) {
            Check.refused(x, "preclean(" + n + ")", IllegalArgumentException.class, () -> { x.preclean(n); return 0; });
        }
    }

    /** What was gone over once can change again, before and after its object is marked. */
    private static void anyNumberOfSteps() {
        for (int first = 0; first <= 24; first++) {
            for (int second = 0; second <= 12; second++) {
                PileMarker x = new PileMarker();
                x.pile(1);
                for (int k = 0; k < 6; k++) {
                    x.make(3);
                }
                x.root(0, 0);
                x.set(0, 0, 1);
                x.set(1, 0, 2);
                x.begin();
                x.mark(first);
                x.set(2, 0, 3);
                x.set(0, 1, 2);
                x.set(1, 0, PileMarker.NONE);
                x.preclean(second);
                x.set(2, 0, PileMarker.NONE);
                x.set(0, 2, 3);
                x.set(3, 0, 4);
                x.preclean(second);
                x.mark(second);
                x.set(3, 0, PileMarker.NONE);
                x.set(1, 1, 4);
                x.set(4, 2, 5);
                x.preclean(first);
                Check.due("finish()", -1, x::finish);
                Check.due("lost() after " + first + " and " + second, 0, x::lost);
                Check.due("count(2)", 6, () -> x.count(2));
            }
        }
    }
}
