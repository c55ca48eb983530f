public final class Promise08MarkTest {
    private static final int NONE = PileMarker.NONE;

    public static void main(String[] args) {
        new Steps("mark").testAll();
        Check.sentence("so many steps, then a change, in a chain", Promise08MarkTest::chains);
        Check.sentence("so many steps, then all that was marked is let go", Promise08MarkTest::letGo);
        Check.sentence("as many steps as a cycle can have", Promise08MarkTest::mostSteps);
        Check.end();
    }

    /** Changes behind the marker's back, after each number of steps. */
    private static void chains() {
        for (int steps = 0; steps <= 60; steps++) {
            Run run = Heaps.withObjects(10, 2);
            run.pile(1 + steps % 3);
            for (int k = 0; k < 8; k++) {
                run.set(k, 0, k + 1);
            }
            run.root(steps % 16, 0);
            run.begin().isDone();
            run.mark(steps).isDone();
            // 8 hangs on 0 now, which may have been gone through already.
            run.set(0, 1, 8);
            run.set(7, 0, NONE);
            run.set(8, 1, 9);
            run.mark(steps).isDone();
            run.finish().isNothing();
            run.lost().is(0);
            run.count(2).is(10);
            run.begin().isDone();
            run.mark(steps).isDone();
            run.finish().is(10);
        }
    }

    private static void letGo() {
        for (int steps = 0; steps <= 30; steps++) {
            Run run = Heaps.smallInCycle();
            run.mark(steps).isDone();
            run.root(0, NONE).is(0);
            run.finish().isNothing();
            run.lost().is(0);
            run.begin().isDone();
            run.mark(steps).isDone();
            run.finish().is(0);
            run.marked(0).isNo();
        }
    }

    private static void mostSteps() {
        Run run = Heaps.withObjects(100, 1);
        for (int k = 1; k < 100; k++) {
            run.set(k, 0, k - 1);
        }
        run.root(0, 99);
        run.begin().isDone();
        while (run.callsLeft() > 2) {
            run.mark(5000).isDone();
        }
        run.finish().is(100);
        run.lost().is(0);
    }
}
