public final class Promise10FinishTest {
    public static void main(String[] args) {
        Check.sentence("the cycle is finished", Promise10FinishTest::isFinished);
        Check.sentence("how many are marked: 0 with no objects", Promise10FinishTest::noObjects);
        Check.sentence("how many are marked: 0 with none reached", Promise10FinishTest::noneReached);
        Check.sentence("how many are marked: without a step", () -> Heaps.smallInCycle().finish().is(2));
        Check.sentence("how many are marked: all", Promise10FinishTest::allReached);
        Check.sentence("how many are marked: not what only others hold", Promise10FinishTest::garbage);
        Check.sentence("else NONE: after make()", () -> notQuiet("make", 0));
        Check.sentence("else NONE: after set()", () -> notQuiet("set", 2, 1, 2));
        Check.sentence("else NONE: after set() of what was there", () -> notQuiet("set", 0, 0, 1));
        Check.sentence("else NONE: after root()", () -> notQuiet("root", 5, 2));
        Check.sentence("else NONE: after root() of what was there", () -> notQuiet("root", 0, 0));
        Check.sentence("else NONE: even with nothing reached", Promise10FinishTest::nothingNotQuiet);
        Check.sentence("quiet though a call was refused", Promise10FinishTest::quietAfterRefused);
        Check.sentence("there is no cycle: none begun yet", () -> Heaps.small().finish().isBadState());
        Check.sentence("there is no cycle: no objects either", () -> new Run().finish().isBadState());
        Check.sentence("there is no cycle: finished already", () -> Heaps.smallFinished().finish().isBadState());
        Check.sentence("there is no cycle: finished, not quiet", Promise10FinishTest::twiceNotQuiet);
        Check.end();
    }

    private static void isFinished() {
        Run run = Heaps.smallFinished();
        run.count(5).is(0);
        run.count(3).is(1);
        run.begin().isDone();
        run.finish().is(2);
        run.count(3).is(2);
    }

    private static void noObjects() {
        Run run = new Run();
        run.begin().isDone();
        run.finish().is(0);
        run.count(4).is(1);
    }

    private static void noneReached() {
        Run run = Heaps.withObjects(5, 1);
        run.begin().isDone();
        run.finish().is(0);
        run.count(4).is(1);
    }

    private static void allReached() {
        for (int objects = 1; objects <= 16; objects++) {
            Run run = Heaps.withObjects(objects, 1);
            for (int k = 0; k < objects; k++) {
                run.root(k, k);
            }
            run.begin().isDone();
            run.finish().is(objects);
        }
    }

    /** 3 and 4 hold one another, and the reached ones, but nothing reached holds them. */
    private static void garbage() {
        Run run = Heaps.withObjects(5, 2);
        run.set(3, 0, 4);
        run.set(4, 0, 3);
        run.set(4, 1, 0);
        run.set(0, 0, 0);
        run.set(0, 1, 2);
        run.set(2, 0, 0);
        run.root(0, 2);
        run.root(1, 0);
        run.begin().isDone();
        run.mark(17).isDone();
        run.finish().is(2);
        run.marked(0).isYes();
        run.marked(1).isNo();
        run.marked(2).isYes();
        run.marked(3).isNo();
        run.marked(4).isNo();
    }

    private static void notQuiet(String name, int... args) {
        Run run = Heaps.smallInCycle();
        run.call(name, args);
        run.finish().isNothing();
        run.count(3).is(1);
        run.count(4).is(0);
        run.count(5).is(0);
        run.begin().isDone();
        run.finish();
        run.count(4).is(1);
    }

    private static void nothingNotQuiet() {
        Run run = new Run();
        run.begin().isDone();
        run.root(0, PileMarker.NONE).isNothing();
        run.finish().isNothing();
        run.begin().isDone();
        run.make(0).is(0);
        run.finish().isNothing();
        run.count(4).is(0);
    }

    private static void quietAfterRefused() {
        Run run = Heaps.smallInCycle();
        run.make(21).isBadArgument();
        run.set(0, 2, 0).isNoSuchElement();
        run.set(0, 0, 3).isNoSuchElement();
        run.root(16, 0).isNoSuchElement();
        run.root(0, 3).isNoSuchElement();
        run.begin().isBadState();
        Heaps.isStillQuiet(run, 2);
    }

    private static void twiceNotQuiet() {
        Run run = Heaps.smallFinishedNotQuiet();
        run.finish().isBadState();
        run.count(3).is(1);
        run.lost().is(0);
    }
}
