public final class Promise13CountTest {
    public static void main(String[] args) {
        PileMarker x = new PileMarker();
        counts(x, 0, 0, 0, 0, 0, 0);
        x.make(3);
        x.make(0);
        x.make(20);
        counts(x, 3, 23, 0, 0, 0, 0);
        x.set(0, 0, 1);
        x.set(2, 19, 0);
        counts(x, 3, 23, 0, 0, 0, 0);
        x.root(0, 0);
        counts(x, 3, 23, 2, 0, 0, 0);
        x.begin();
        counts(x, 3, 23, 2, 0, 0, 1);
        x.finish();
        counts(x, 3, 23, 2, 1, 1, 0);
        x.begin();
        x.root(1, 2);
        counts(x, 3, 23, 3, 1, 1, 1);
        x.finish();
        counts(x, 3, 23, 3, 2, 1, 0);
        x.set(0, 1, 0);
        x.set(0, 2, 2);
        counts(x, 3, 23, 3, 2, 1, 0);
        x.root(0, PileMarker.NONE);
        x.root(1, PileMarker.NONE);
        counts(x, 3, 23, 0, 2, 1, 0);
        int[] wrong = {-1, 6, 7, Integer.MAX_VALUE, Integer.MIN_VALUE};
        for (int what : wrong) {
            Check.refused(x, "count(" + what + ")", IllegalArgumentException.class, () -> x.count(what));
        }
        x.begin();
        Check.refused(x, "count(6) in a cycle", IllegalArgumentException.class, () -> x.count(6));
        Check.due("finish(): a count() is no change", 0, x::finish);
        countInACycleDisturbsNothing();
        Check.end();
    }

    private static void counts(PileMarker x, int... want) {
        for (int i = 0; i < want.length; i++) {
            int what = i;
            Check.due("count(" + i + ")", want[i], () -> x.count(what));
        }
    }

    private static void countInACycleDisturbsNothing() {
        PileMarker x = new PileMarker();
        x.pile(1);
        for (int k = 0; k < 30; k++) {
            x.make(3);
        }
        for (int k = 0; k < 28; k++) {
            x.set(k, k % 3, k + 1);
        }
        x.root(0, 0);
        x.begin();
        for (int i = 0; i < 60; i++) {
            Check.due("count(2) between steps", 29, () -> x.count(2));
            x.mark(1);
        }
        Check.due("finish()", 29, x::finish);
        Check.dueYes("marked(29)", false, x.marked(29));
    }
}
