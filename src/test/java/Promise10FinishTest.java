public final class Promise10FinishTest {
    public static void main(String[] args) {
        states();
        quiet();
        garbageIsNotMarked();
        Check.end();
    }

    private static void states() {
        PileMarker x = new PileMarker();
        Check.refused(x, "finish() of a new one", IllegalStateException.class, x::finish);
        x.begin();
        Check.due("finish() with no objects", 0, x::finish);
        Check.refused(x, "finish() twice", IllegalStateException.class, x::finish);
        Check.due("count(3)", 1, () -> x.count(3));
        Check.due("count(5)", 0, () -> x.count(5));
    }

    private static void quiet() {
        PileMarker x = new PileMarker();
        x.make(1);
        x.make(1);
        x.set(0, 0, 1);
        x.root(2, 0);
        x.begin();
        Check.due("finish() without a step", 2, x::finish);
        x.begin();
        x.get(0, 0);
        x.count(2);
        x.mark(3);
        x.preclean(3);
        Check.due("finish() after calls that change nothing", 2, x::finish);
        x.begin();
        x.make(0);
        Check.due("finish() after make()", -1, x::finish);
        x.begin();
        x.set(0, 0, 1);
        Check.due("finish() after set() of what was there", -1, x::finish);
        x.begin();
        x.root(2, 0);
        Check.due("finish() after root() of what was there", -1, x::finish);
        x.begin();
        x.root(7, PileMarker.NONE);
        Check.due("finish() after root() of nothing to nothing", -1, x::finish);
        x.begin();
        x.set(1, 0, 0);
        x.set(1, 0, PileMarker.NONE);
        Check.due("finish() after a change and back", -1, x::finish);
        x.make(0);
        x.begin();
        Check.due("finish(): changes before begin() do not count", 2, x::finish);
        Check.due("count(4)", 3, () -> x.count(4));
        Check.due("count(3)", 8, () -> x.count(3));
    }

    private static void garbageIsNotMarked() {
        PileMarker x = new PileMarker();
        for (int k = 0; k < 5; k++) {
            x.make(2);
        }
        // 3 and 4 hold one another, and the reached ones, but nothing reached holds them.
        x.set(3, 0, 4);
        x.set(4, 0, 3);
        x.set(4, 1, 0);
        x.set(0, 0, 0);
        x.set(0, 1, 2);
        x.set(2, 0, 0);
        x.root(0, 2);
        x.root(1, 0);
        x.begin();
        x.mark(17);
        Check.due("finish()", 2, x::finish);
        boolean[] want = {true, false, true, false, false};
        for (int k = 0; k < want.length; k++) {
            Check.dueYes("marked(" + k + ")", want[k], x.marked(k));
        }
    }
}
