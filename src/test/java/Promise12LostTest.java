public final class Promise12LostTest {
    private static final int NONE = PileMarker.NONE;

    public static void main(String[] args) {
        Check.sentence("without a cycle: none is lost of a quiet one", () -> Heaps.smallFinished().lost().is(0));
        Check.sentence("without a cycle: no objects", Promise12LostTest::noObjects);
        Check.sentence("without a cycle: one that was not quiet", () -> Heaps.smallFinishedNotQuiet().lost().is(0));
        Check.sentence("there is a cycle: the first", () -> Heaps.smallInCycle().lost().isBadState());
        Check.sentence("there is a cycle: after one that was finished", Promise12LostTest::secondCycle);
        Check.sentence("none was finished", () -> Heaps.small().lost().isBadState());
        Check.sentence("none was finished: no objects", () -> new Run().lost().isBadState());
        Check.sentence("a make() was done since", () -> doneSince("make", 20));
        Check.sentence("a set() was done since", () -> doneSince("set", 1, 1, 2));
        Check.sentence("a set() of what was there was done since", () -> doneSince("set", 0, 0, 1));
        Check.sentence("a root() was done since", () -> doneSince("root", 15, 2));
        Check.sentence("a root() of what was there was done since", () -> doneSince("root", 0, 0));
        Check.sentence("only refused and other calls were done since", Promise12LostTest::nothingDoneSince);
        Check.sentence("none is lost in roots looked at already", Promise12LostTest::hiddenByRoots);
        Check.sentence("none is lost behind new objects", Promise12LostTest::hiddenInNewOnes);
        Check.sentence("none is lost that was not remembered", Promise12LostTest::hiddenWhileForgotten);
        Check.sentence("none is lost by a change just before the end", Promise12LostTest::lastMoment);
        Check.sentence("none is lost with the last of 400 objects", Promise12LostTest::fullHeap);
        Check.end();
    }

    private static void noObjects() {
        Run run = new Run();
        run.begin().isDone();
        run.finish().is(0);
        run.lost().is(0);
    }

    private static void secondCycle() {
        Run run = Heaps.smallFinished();
        run.lost().is(0);
        run.begin().isDone();
        run.lost().isBadState();
        run.mark(5000);
        run.lost().isBadState();
        run.finish().is(2);
        run.lost().is(0);
    }

    private static void doneSince(String name, int... args) {
        Run[] runs = {Heaps.smallFinished(), Heaps.smallFinishedNotQuiet()};
        for (Run run : runs) {
            run.lost().is(0);
            run.call(name, args);
            run.lost().isBadState();
            Heaps.cycle(run);
            run.lost().is(0);
        }
    }

    private static void nothingDoneSince() {
        Run[] runs = {Heaps.smallFinished(), Heaps.smallFinishedNotQuiet()};
        for (Run run : runs) {
            run.make(21).isBadArgument();
            run.set(0, 2, 0).isNoSuchElement();
            run.set(3, 0, 0).isNoSuchElement();
            run.root(16, 0).isNoSuchElement();
            run.finish().isBadState();
            run.get(0, 0).is(1);
            run.pile(1).is(8);
            run.mark(5000).isDone();
            run.preclean(5000).isDone();
            run.count(2).is(2);
            run.lost().is(0);
        }
    }

    /** An object wanders from root to root, always into one that was looked at. */
    private static void hiddenByRoots() {
        for (int steps = 0; steps <= 20; steps++) {
            Run run = Heaps.withObjects(2, 1);
            run.set(0, 0, 1);
            run.root(15, 0);
            run.begin().isDone();
            run.mark(steps).isDone();
            run.root(0, 0);
            run.root(15, NONE);
            run.root(3, 1);
            run.set(0, 0, NONE);
            run.finish().isNothing();
            run.lost().is(0);
            run.count(2).is(2);
        }
    }

    private static void hiddenInNewOnes() {
        for (int steps = 0; steps <= 30; steps++) {
            Run run = Heaps.withObjects(1, 2);
            run.root(0, 0);
            run.begin().isDone();
            run.mark(steps).isDone();
            run.make(1);
            run.make(1);
            run.set(1, 0, 2);
            run.preclean(steps % 4).isDone();
            run.set(0, 1, 1);
            run.mark(steps % 5).isDone();
            run.make(0);
            run.set(2, 0, 3);
            run.finish().isNothing();
            run.lost().is(0);
            run.count(2).is(4);
        }
    }

    /** More than the pile holds at once, and changes while the marker goes over them again. */
    private static void hiddenWhileForgotten() {
        for (int steps = 0; steps <= 120; steps++) {
            Run run = Heaps.withObjects(45, 20);
            run.pile(1 + steps % 4);
            for (int field = 0; field < 20; field++) {
                run.set(44, field, field);
                run.set(field, field, 43 - field);
            }
            run.root(8, 44);
            run.begin().isDone();
            run.mark(steps).isDone();
            run.set(30, 2, 20);
            run.set(20, 2, 21);
            run.set(13, 13, 22);
            run.preclean(steps % 50).isDone();
            run.set(0, 0, NONE);
            run.set(12, 3, 43);
            run.mark(steps % 7).isDone();
            run.finish().isNothing();
            run.lost().is(0);
            run.begin().isDone();
            run.finish().is(41);
        }
    }

    private static void lastMoment() {
        Run run = Heaps.smallInCycle();
        run.mark(5000).isDone();
        run.preclean(5000).isDone();
        run.set(1, 1, 2).isNothing();
        run.finish().isNothing();
        run.lost().is(0);
        run.begin().isDone();
        run.mark(5000).isDone();
        run.make(1).is(3);
        run.root(0, 3).is(0);
        run.finish().isNothing();
        run.lost().is(0);
        run.count(2).is(1);
    }

    private static void fullHeap() {
        for (int n = 1; n <= 8; n++) {
            Run run = Heaps.withObjects(399, 20);
            run.pile(n);
            for (int field = 0; field < 20; field++) {
                run.set(0, field, 398 - field);
                run.set(398 - field, field, 20 - field);
            }
            run.root(15, 0);
            run.begin().isDone();
            run.mark(20 * n).isDone();
            run.make(20).is(399);
            run.set(1, 19, 399).isNothing();
            run.set(399, 19, 200).isNothing();
            run.preclean(50 * n).isDone();
            run.finish().isNothing();
            run.lost().is(0);
            run.count(2).is(43);
        }
    }
}
