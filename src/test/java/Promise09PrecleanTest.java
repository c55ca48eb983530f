public final class Promise09PrecleanTest {
    private static final int NONE = PileMarker.NONE;

    public static void main(String[] args) {
        new Steps("preclean").testAll();
        Check.sentence("so many steps of going over what was changed", Promise09PrecleanTest::changesBetween);
        Check.sentence("gone over, then changed again", Promise09PrecleanTest::changedAgain);
        Check.sentence("gone over before it is marked", Promise09PrecleanTest::goneOverBeforeMarked);
        Check.sentence("changed: the first object", () -> oneChanged(0, 200));
        Check.sentence("changed: the last object", () -> oneChanged(200, 0));
        Check.sentence("changed: the last of 400 objects", Promise09PrecleanTest::lastOfFull);
        Check.sentence("changed: one that was made in the cycle", Promise09PrecleanTest::madeInCycle);
        Check.sentence("all of more objects changed than are remembered", Promise09PrecleanTest::manyChanged);
        Check.end();
    }

    private static void changesBetween() {
        for (int first = 0; first <= 24; first++) {
            for (int second = 0; second <= 12; second++) {
                changesBetween(first, second);
            }
        }
    }

    private static void changesBetween(int first, int second) {
        Run run = Heaps.withObjects(6, 3);
        run.pile(1);
        run.root(0, 0);
        run.set(0, 0, 1);
        run.set(1, 0, 2);
        run.begin().isDone();
        run.mark(first).isDone();
        run.set(2, 0, 3);
        run.set(0, 1, 2);
        run.set(1, 0, NONE);
        run.preclean(second).isDone();
        run.set(2, 0, NONE);
        run.set(0, 2, 3);
        run.set(3, 0, 4);
        run.preclean(second).isDone();
        run.mark(second).isDone();
        run.set(3, 0, NONE);
        run.set(1, 1, 4);
        run.set(4, 2, 5);
        run.preclean(first).isDone();
        run.finish().isNothing();
        run.lost().is(0);
        run.count(2).is(6);
    }

    private static void changedAgain() {
        for (int steps = 0; steps <= 12; steps++) {
            Run run = Heaps.smallInCycle();
            run.mark(5000).isDone();
            run.set(0, 1, 1).isNothing();
            run.preclean(5000).isDone();
            run.set(0, 1, 2).is(1);
            run.preclean(steps).isDone();
            run.finish().isNothing();
            run.lost().is(0);
            run.count(2).is(3);
        }
    }

    private static void goneOverBeforeMarked() {
        Run run = Heaps.smallInCycle();
        run.set(1, 0, 2).isNothing();
        run.preclean(5000).isDone();
        run.mark(5000).isDone();
        run.finish().isNothing();
        run.lost().is(0);
        run.count(2).is(3);
    }

    /** Without preclean(), with too few steps, and with enough. */
    private static void oneChanged(int k, int other) {
        for (int steps = 0; steps <= 400; steps += 100) {
            Run run = Heaps.withObjects(201, 1);
            run.root(0, k);
            run.begin().isDone();
            run.mark(5000).isDone();
            run.set(k, 0, other).isNothing();
            run.preclean(steps).isDone();
            run.finish().isNothing();
            run.lost().is(0);
            run.count(2).is(2);
        }
    }

    private static void lastOfFull() {
        Run run = Heaps.full(20);
        run.root(15, 399);
        run.begin().isDone();
        run.mark(5000).isDone();
        run.set(399, 19, 398).isNothing();
        run.preclean(5000).isDone();
        run.set(398, 19, 0).isNothing();
        run.finish().isNothing();
        run.lost().is(0);
        run.count(2).is(3);
    }

    private static void madeInCycle() {
        Run run = Heaps.smallInCycle();
        run.mark(5000).isDone();
        run.preclean(5000).isDone();
        run.make(1).is(3);
        run.set(0, 1, 3).isNothing();
        run.preclean(5000).isDone();
        run.mark(5000).isDone();
        run.set(3, 0, 2).isNothing();
        run.finish().isNothing();
        run.lost().is(0);
        run.count(2).is(4);
    }

    /** Each of 60 marked objects gets a new one: more than any pile of 1 .. 8 has place for. */
    private static void manyChanged() {
        for (int n = 1; n <= 8; n++) {
            Run run = Heaps.withObjects(120, 2);
            run.pile(n);
            run.root(0, 59);
            for (int k = 1; k < 60; k++) {
                run.set(k, 0, k - 1);
            }
            run.begin().isDone();
            run.mark(5000).isDone();
            for (int k = 0; k < 60; k++) {
                run.set(k, 1, 119 - k);
            }
            run.preclean(n * 9).isDone();
            run.finish().isNothing();
            run.lost().is(0);
            run.count(2).is(120);
        }
    }
}
