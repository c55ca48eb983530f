public final class Promise06PileTest {
    public static void main(String[] args) {
        Check.sentence("how many it did: eight at first", () -> new Run().pile(8).is(8));
        Check.sentence("how many it did: the latest one", Promise06PileTest::theLatest);
        Check.sentence("n 1 is taken", () -> Heaps.small().pile(1).is(8));
        Check.sentence("n 64 is taken", () -> Heaps.small().pile(64).is(8));
        Check.sentence("n 0 is refused", () -> Heaps.small().pile(0).isBadArgument());
        Check.sentence("n 65 is refused", () -> Heaps.small().pile(65).isBadArgument());
        Check.sentence("n -1 is refused", () -> Heaps.small().pile(-1).isBadArgument());
        Check.sentence("n far off is refused", Promise06PileTest::farOff);
        Check.sentence("there is a cycle: refused", Promise06PileTest::inCycle);
        Check.sentence("there is a cycle, and n is wrong", Promise06PileTest::inCycleAndWrong);
        Check.sentence("there was a cycle: taken", () -> Heaps.smallFinished().pile(2).is(8));
        Check.sentence("no change: the marks still hold", Promise06PileTest::marksHold);
        Check.sentence("at most n: every n marks all, however wide", Promise06PileTest::everyPile);
        Check.sentence("at most n: as many as n, one less and one more", Promise06PileTest::justFull);
        Check.sentence("at most n: one more again and again, with lower numbers", () -> oneTooMany(false));
        Check.sentence("at most n: one more again and again, up to the last", () -> oneTooMany(true));
        Check.sentence("at most n: less than in the cycle before", Promise06PileTest::smallerThanBefore);
        Check.end();
    }

    private static void theLatest() {
        Run run = new Run();
        int before = 8;
        for (int n = 1; n <= 64; n++) {
            run.pile(n).is(before);
            run.pile(n).is(n);
            before = n;
        }
        run.pile(65).isBadArgument();
        run.pile(0).isBadArgument();
        run.pile(1).is(64);
    }

    private static void farOff() {
        for (int n : Heaps.FAR) {
            Heaps.small().pile(n).isBadArgument();
        }
    }

    private static void inCycle() {
        Run run = Heaps.smallInCycle();
        run.pile(8).isBadState();
        run.pile(1).isBadState();
        run.pile(64).isBadState();
        Heaps.isStillQuiet(run, 2);
        run.pile(1).is(8);
    }

    private static void inCycleAndWrong() {
        Run run = Heaps.smallInCycle();
        run.pile(0).isBadArgument();
        run.pile(65).isBadArgument();
        for (int n : Heaps.FAR) {
            run.pile(n).isBadArgument();
        }
        Heaps.isStillQuiet(run, 2);
        run.pile(1).is(8);
    }

    private static void marksHold() {
        Run run = Heaps.smallFinished();
        run.pile(1).is(8);
        run.marked(0).isYes();
        run.marked(2).isNo();
        run.lost().is(0);
    }

    /** Object 149 refers to 148 .. 129, each of these to lower ones: what is forgotten lies behind. */
    private static Run wide(int n) {
        int objects = 150;
        Run run = Heaps.withObjects(objects, 20);
        run.pile(n);
        int next = objects - 2;
        for (int k = objects - 1; k > 0 && next >= 0; k--) {
            for (int field = 0; field < 20 && next >= 0; field++) {
                run.set(k, field, next);
                next--;
            }
        }
        run.root(9, objects - 1);
        return run;
    }

    private static void everyPile() {
        for (int n = 1; n <= 64; n++) {
            Run run = wide(n);
            run.begin().isDone();
            run.mark(n).isDone();
            run.finish().is(150);
            run.lost().is(0);
        }
    }

    /** The roots have so many objects at once, and each has one more behind it. */
    private static void justFull() {
        for (int n = 1; n <= 17; n++) {
            for (int wide = Math.max(1, n - 1); wide <= Math.min(16, n + 1); wide++) {
                Run run = Heaps.withObjects(2 * wide, 1);
                run.pile(n);
                for (int i = 0; i < wide; i++) {
                    run.root(i, i);
                    run.set(i, 0, wide + i);
                }
                run.begin().isDone();
                run.mark(16).isDone();
                run.finish().is(2 * wide);
                run.lost().is(0);
            }
        }
    }

    private static void oneTooMany(boolean upwards) {
        for (int n = 1; n <= 15; n++) {
            oneTooMany(n, 5, upwards);
        }
    }

    /**
     * Each level has n objects without fields that are kept, and one more that is not: it alone
     * has the next level. The last of all has object 0. Two more are not reached, and lie where
     * the marker comes by when it looks for those that it did not remember.
     */
    private static void oneTooMany(int n, int levels, boolean upwards) {
        int objects = 3 + levels * (n + 1);
        Run run = Heaps.withObjects(objects, n + 1);
        run.pile(n);
        int unreached = upwards ? 1 : objects - 2;
        run.set(unreached, 0, unreached + 1);
        int first = upwards ? 3 : 1;
        int parent = PileMarker.NONE;
        for (int level = 0; level < levels; level++) {
            int lowest = first + (upwards ? level : levels - 1 - level) * (n + 1);
            for (int i = 0; i <= n; i++) {
                if (level == 0) {
                    run.root(i, lowest + i);
                } else {
                    run.set(parent, i, lowest + i);
                }
            }
            parent = lowest + n;
        }
        run.set(parent, 0, 0);
        run.begin().isDone();
        run.mark(16).isDone();
        run.finish().is(objects - 2);
        run.marked(0).isYes();
        run.marked(unreached + 1).isNo();
        run.lost().is(0);
    }

    private static void smallerThanBefore() {
        Run run = wide(64);
        run.begin().isDone();
        run.mark(30).isDone();
        run.finish().is(150);
        run.pile(1).is(64);
        run.begin().isDone();
        run.mark(30).isDone();
        run.finish().is(150);
        run.lost().is(0);
    }
}
