public final class Promise05RootTest {
    private static final int NONE = PileMarker.NONE;

    public static void main(String[] args) {
        Check.sentence("a root becomes an object: what it was", Promise05RootTest::whatItWas);
        Check.sentence("NONE: nothing", Promise05RootTest::nothing);
        Check.sentence("no other root changes", Promise05RootTest::eachOnItsOwn);
        Check.sentence("the same object in several roots", Promise05RootTest::inSeveral);
        Check.sentence("a root becomes another in a cycle", Promise05RootTest::inCycle);
        Check.sentence("root 0 is taken", () -> Heaps.small().root(0, 1).is(0));
        Check.sentence("root 15 is taken", () -> Heaps.small().root(15, 1).isNothing());
        Check.sentence("root -1 is refused", () -> refused(-1, 1));
        Check.sentence("root 16 is refused", () -> refused(16, 1));
        Check.sentence("a root far off is refused", Promise05RootTest::farRoots);
        Check.sentence("k 0 and the last k are taken", Promise05RootTest::outerObjects);
        Check.sentence("k NONE is taken", () -> Heaps.small().root(0, NONE).is(0));
        Check.sentence("k -2 is refused", () -> refused(0, -2));
        Check.sentence("k that is not made yet is refused", () -> refused(0, 3));
        Check.sentence("k is made, then taken", Promise05RootTest::madeThenTaken);
        Check.sentence("k far off is refused", Promise05RootTest::farObjects);
        Check.sentence("root -1 is refused even with k NONE", () -> refused(-1, NONE));
        Check.sentence("root 16 is refused even with k NONE", () -> refused(16, NONE));
        Check.sentence("root and k are refused at once", () -> refused(16, 3));
        Check.end();
    }

    private static void whatItWas() {
        Run run = Heaps.withObjects(3, 0);
        run.root(4, 1).isNothing();
        run.root(4, 2).is(1);
        run.root(4, 2).is(2);
        run.root(4, 0).is(2);
        run.count(2).is(1);
    }

    private static void nothing() {
        Run run = Heaps.small();
        run.root(0, NONE).is(0);
        run.count(2).is(0);
        run.root(0, NONE).isNothing();
        run.root(0, 2).isNothing();
        run.count(2).is(1);
    }

    private static void eachOnItsOwn() {
        Run run = Heaps.withObjects(16, 0);
        for (int i = 0; i < 16; i++) {
            run.root(i, i).isNothing();
        }
        run.root(7, NONE).is(7);
        run.root(0, 15).is(0);
        run.root(15, 0).is(15);
        for (int i = 1; i < 15; i++) {
            run.root(i, NONE).is(i == 7 ? NONE : i);
        }
        run.root(0, NONE).is(15);
        run.root(15, NONE).is(0);
    }

    private static void inSeveral() {
        Run run = Heaps.small();
        run.root(1, 0).isNothing();
        run.root(15, 0).isNothing();
        run.count(2).is(2);
        run.root(0, NONE).is(0);
        run.root(1, NONE).is(0);
        run.count(2).is(2);
        run.begin().isDone();
        run.finish().is(2);
    }

    private static void inCycle() {
        Run run = Heaps.smallInCycle();
        run.mark(5000);
        run.root(0, 2).is(0);
        run.finish().isNothing();
        run.lost().is(0);
        run.count(2).is(1);
    }

    /** In each state that a run can be in. */
    private static void refused(int root, int k) {
        Heaps.small().root(root, k).isNoSuchElement();
        Run inCycle = Heaps.smallInCycle();
        inCycle.root(root, k).isNoSuchElement();
        Heaps.isStillQuiet(inCycle, 2);
        Run finished = Heaps.smallFinished();
        finished.root(root, k).isNoSuchElement();
        finished.marked(0).isYes();
        finished.root(0, NONE).is(0);
    }

    private static void farRoots() {
        for (int root : Heaps.FAR) {
            refused(root, 1);
            refused(root, NONE);
        }
    }

    private static void outerObjects() {
        Run run = Heaps.full(0);
        run.root(0, 0).isNothing();
        run.root(15, 399).isNothing();
        run.root(15, 400).isNoSuchElement();
        run.count(2).is(2);
    }

    private static void madeThenTaken() {
        Run run = Heaps.small();
        run.root(0, 3).isNoSuchElement();
        run.make(0).is(3);
        run.root(0, 3).is(0);
    }

    private static void farObjects() {
        for (int k : Heaps.FAR) {
            refused(0, k);
        }
    }
}
