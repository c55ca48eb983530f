public final class Promise13CountTest {
    private static final int NONE = PileMarker.NONE;

    public static void main(String[] args) {
        Check.sentence("each is 0 at first", () -> counts(new Run(), 0, 0, 0, 0, 0, 0));
        Check.sentence("0 objects: up to 400, refused ones not", Promise13CountTest::objects);
        Check.sentence("1 fields of all: filled or not", Promise13CountTest::fields);
        Check.sentence("1 fields of all: up to 8000", () -> Heaps.full(20).count(1).is(8000));
        Check.sentence("1 fields of all: none with 400 objects", () -> Heaps.full(0).count(1).is(0));
        Check.sentence("2 objects reached now: none, some, all", Promise13CountTest::reachedNow);
        Check.sentence("2 objects reached now: in a cycle, disturbing none", Promise13CountTest::reachedInCycle);
        Check.sentence("2 objects reached now, not when the cycle was finished", Promise13CountTest::reachedSince);
        Check.sentence("3 cycles finished: not those begun", Promise13CountTest::finished);
        Check.sentence("4 of these those that were quiet", Promise13CountTest::quiet);
        Check.sentence("5 1 if there is a cycle, else 0", Promise13CountTest::cycle);
        Check.sentence("what 0 is taken", () -> Heaps.smallInCycle().count(0).is(3));
        Check.sentence("what 5 is taken", () -> Heaps.smallInCycle().count(5).is(1));
        Check.sentence("what -1 is refused", () -> refused(-1));
        Check.sentence("what 6 is refused", () -> refused(6));
        Check.sentence("what far off is refused", Promise13CountTest::farOff);
        Check.sentence("no change: a cycle stays quiet", Promise13CountTest::staysQuiet);
        Check.end();
    }

    private static void counts(Run run, int... want) {
        for (int what = 0; what < want.length; what++) {
            run.count(what).is(want[what]);
        }
    }

    private static void objects() {
        Run run = new Run();
        run.count(0).is(0);
        run.make(0);
        run.count(0).is(1);
        run.make(21).isBadArgument();
        run.count(0).is(1);
        for (int k = 1; k < 400; k++) {
            run.make(0).is(k);
        }
        run.count(0).is(400);
        run.make(0).isBadState();
        run.count(0).is(400);
    }

    private static void fields() {
        Run run = new Run();
        run.make(3);
        run.count(1).is(3);
        run.make(0);
        run.count(1).is(3);
        run.make(20);
        run.count(1).is(23);
        run.set(0, 0, 1);
        run.set(2, 19, 0);
        run.count(1).is(23);
        run.make(21).isBadArgument();
        run.count(1).is(23);
        run.begin().isDone();
        run.make(1);
        run.count(1).is(24);
    }

    private static void reachedNow() {
        Run run = Heaps.withObjects(3, 1);
        run.count(2).is(0);
        run.root(0, 1);
        run.count(2).is(1);
        run.set(1, 0, 2);
        run.count(2).is(2);
        run.set(2, 0, 0);
        run.count(2).is(3);
        run.set(0, 0, 1);
        run.count(2).is(3);
        run.set(1, 0, NONE);
        run.count(2).is(1);
        run.root(0, NONE);
        run.count(2).is(0);
    }

    private static void reachedInCycle() {
        Run run = Heaps.withObjects(30, 3);
        run.pile(1);
        for (int k = 0; k < 28; k++) {
            run.set(k, k % 3, k + 1);
        }
        run.root(0, 0);
        run.begin().isDone();
        for (int i = 0; i < 60; i++) {
            run.count(2).is(29);
            run.mark(1).isDone();
        }
        run.finish().is(29);
        run.marked(29).isNo();
    }

    private static void reachedSince() {
        Run run = Heaps.smallFinished();
        run.set(0, 0, NONE).is(1);
        run.count(2).is(1);
        run.set(0, 0, 2).isNothing();
        run.set(0, 1, 1).isNothing();
        run.count(2).is(3);
    }

    private static void finished() {
        Run run = Heaps.small();
        run.finish().isBadState();
        run.count(3).is(0);
        run.begin().isDone();
        run.count(3).is(0);
        run.begin().isBadState();
        run.finish().is(2);
        run.count(3).is(1);
        run.finish().isBadState();
        run.count(3).is(1);
        run.begin().isDone();
        run.root(0, 1).is(0);
        run.finish().isNothing();
        run.count(3).is(2);
    }

    private static void quiet() {
        Run run = Heaps.smallFinished();
        run.count(4).is(1);
        run.set(0, 0, 1).is(1);
        run.count(4).is(1);
        run.begin().isDone();
        run.set(0, 0, 1).is(1);
        run.finish().isNothing();
        run.count(4).is(1);
        run.begin().isDone();
        run.count(4).is(1);
        run.finish().is(2);
        run.count(4).is(2);
        run.count(3).is(3);
    }

    private static void cycle() {
        Run run = Heaps.small();
        run.count(5).is(0);
        run.begin().isDone();
        run.count(5).is(1);
        run.mark(5000);
        run.preclean(5000);
        run.count(5).is(1);
        run.begin().isBadState();
        run.count(5).is(1);
        run.finish().is(2);
        run.count(5).is(0);
        run.begin().isDone();
        run.count(5).is(1);
    }

    private static void refused(int what) {
        new Run().count(what).isBadArgument();
        Heaps.small().count(what).isBadArgument();
        Run run = Heaps.smallInCycle();
        run.count(what).isBadArgument();
        Heaps.isStillQuiet(run, 2);
        run.count(what).isBadArgument();
        run.marked(1).isYes();
    }

    private static void farOff() {
        for (int what : Heaps.FAR) {
            refused(what);
        }
    }

    private static void staysQuiet() {
        Run run = Heaps.smallInCycle();
        counts(run, 3, 6, 2, 0, 0, 1);
        Heaps.isStillQuiet(run, 2);
        counts(run, 3, 6, 2, 1, 1, 0);
        run.marked(0).isYes();
        run.lost().is(0);
    }
}
