public final class Promise11MarkedTest {
    private static final int NONE = PileMarker.NONE;

    public static void main(String[] args) {
        Check.sentence("whether object k is marked", Promise11MarkedTest::eachOne);
        Check.sentence("by the latest cycle that was finished", Promise11MarkedTest::byTheLatest);
        Check.sentence("k 0 and the last k are taken", Promise11MarkedTest::outerObjects);
        Check.sentence("k -1 is refused", () -> noSuch(-1));
        Check.sentence("k that is not made yet is refused", () -> noSuch(3));
        Check.sentence("k 400 is refused", () -> noSuch(400));
        Check.sentence("k far off is refused", Promise11MarkedTest::farOff);
        Check.sentence("there is a cycle: the first", () -> allRefused(Heaps.smallInCycle()));
        Check.sentence("there is a cycle: after a quiet one", Promise11MarkedTest::secondCycle);
        Check.sentence("there is a cycle: all is marked already", Promise11MarkedTest::markedCycle);
        Check.sentence("none was finished", () -> allRefused(Heaps.small()));
        Check.sentence("that was not quiet", () -> allRefused(Heaps.smallFinishedNotQuiet()));
        Check.sentence("that was not quiet, but the one before was", Promise11MarkedTest::quietBefore);
        Check.sentence("a make() was done since", () -> doneSince("make", 0));
        Check.sentence("a set() was done since", () -> doneSince("set", 2, 0, 1));
        Check.sentence("a set() of what was there was done since", () -> doneSince("set", 0, 0, 1));
        Check.sentence("a root() was done since", () -> doneSince("root", 3, 2));
        Check.sentence("a root() of what was there was done since", () -> doneSince("root", 0, 0));
        Check.sentence("a change and back was done since", Promise11MarkedTest::changeAndBack);
        Check.sentence("only refused and other calls were done since", Promise11MarkedTest::nothingDoneSince);
        Check.sentence("a change since, then another quiet cycle", Promise11MarkedTest::anotherCycle);
        Check.end();
    }

    private static void eachOne() {
        Run run = Heaps.smallFinished();
        run.marked(0).isYes();
        run.marked(1).isYes();
        run.marked(2).isNo();
        run.marked(0).isYes();
    }

    private static void byTheLatest() {
        Run run = Heaps.smallFinished();
        run.root(0, 2).is(0);
        Heaps.cycle(run);
        run.marked(0).isNo();
        run.marked(2).isYes();
        run.root(0, NONE).is(2);
        Heaps.cycle(run);
        run.marked(2).isNo();
        run.root(0, 1).isNothing();
        Heaps.cycle(run);
        run.marked(1).isYes();
    }

    private static void outerObjects() {
        Run run = Heaps.full(0);
        run.root(0, 0);
        run.root(1, 399);
        Heaps.cycle(run);
        run.marked(0).isYes();
        run.marked(1).isNo();
        run.marked(398).isNo();
        run.marked(399).isYes();
        run.marked(400).isNoSuchElement();
        run.marked(-1).isNoSuchElement();
    }

    /** In each state, those among them where any k is refused. */
    private static void noSuch(int k) {
        new Run().marked(k).isNoSuchElement();
        Heaps.small().marked(k).isNoSuchElement();
        Heaps.smallInCycle().marked(k).isNoSuchElement();
        Heaps.smallFinished().marked(k).isNoSuchElement();
        Heaps.smallFinishedNotQuiet().marked(k).isNoSuchElement();
        Run changed = Heaps.smallFinished();
        changed.root(0, 0);
        changed.marked(k).isNoSuchElement();
    }

    private static void farOff() {
        for (int k : Heaps.FAR) {
            noSuch(k);
        }
    }

    private static void allRefused(Run run) {
        run.marked(0).isBadState();
        run.marked(1).isBadState();
        run.marked(2).isBadState();
    }

    private static void secondCycle() {
        Run run = Heaps.smallFinished();
        run.begin().isDone();
        allRefused(run);
        run.finish().is(2);
        run.marked(0).isYes();
    }

    private static void markedCycle() {
        Run run = Heaps.smallInCycle();
        run.mark(5000);
        run.preclean(5000);
        allRefused(run);
        run.finish().is(2);
    }

    private static void quietBefore() {
        Run run = Heaps.smallFinished();
        run.begin().isDone();
        run.set(0, 0, 1).is(1);
        run.finish().isNothing();
        allRefused(run);
        Heaps.cycle(run);
        run.marked(1).isYes();
    }

    private static void doneSince(String name, int... args) {
        Run run = Heaps.smallFinished();
        run.marked(0).isYes();
        run.call(name, args);
        allRefused(run);
        run.mark(5000);
        allRefused(run);
    }

    private static void changeAndBack() {
        Run run = Heaps.smallFinished();
        run.set(0, 0, NONE).is(1);
        run.set(0, 0, 1).isNothing();
        allRefused(run);
    }

    private static void nothingDoneSince() {
        Run run = Heaps.smallFinished();
        run.make(21).isBadArgument();
        run.set(0, 2, 0).isNoSuchElement();
        run.root(16, 0).isNoSuchElement();
        run.finish().isBadState();
        run.get(0, 0).is(1);
        run.pile(2).is(8);
        run.mark(5000).isDone();
        run.preclean(5000).isDone();
        run.lost().is(0);
        run.count(2).is(2);
        run.marked(0).isYes();
        run.marked(1).isYes();
        run.marked(2).isNo();
    }

    private static void anotherCycle() {
        Run run = Heaps.smallFinished();
        run.make(0).is(3);
        run.marked(3).isBadState();
        Heaps.cycle(run);
        run.marked(3).isNo();
        run.marked(0).isYes();
    }
}
