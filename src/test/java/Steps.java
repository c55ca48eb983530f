/** What mark() and preclean() have in common: the number of steps, and when nothing is done. */
final class Steps {
    private static final int NONE = PileMarker.NONE;

    private final String name;

    Steps(String name) {
        this.name = name;
    }

    void testAll() {
        Check.sentence("n 0 is taken, in a cycle and without", () -> taken(0));
        Check.sentence("n 1 is taken, in a cycle and without", () -> taken(1));
        Check.sentence("n 5000 is taken, in a cycle and without", () -> taken(5000));
        Check.sentence("n -1 is refused, in a cycle and without", () -> refused(-1));
        Check.sentence("n 5001 is refused, in a cycle and without", () -> refused(5001));
        Check.sentence("n far off is refused, in a cycle and without", this::farOff);
        Check.sentence("nothing without a cycle: none begun yet", this::beforeTheFirst);
        Check.sentence("nothing without a cycle: it is finished", this::afterTheLast);
        Check.sentence("nothing without a cycle: it does not begin one", this::beginsNone);
        Check.sentence("nothing when there is nothing more to do", this::nothingMore);
        Check.sentence("nothing when there is nothing at all", this::nothingAtAll);
        Check.sentence("no change: the cycle stays quiet", this::staysQuiet);
    }

    private void taken(int n) {
        Heaps.small().call(name, n).isDone();
        new Run().call(name, n).isDone();
        Run run = Heaps.smallInCycle();
        run.call(name, n).isDone();
        run.call(name, n).isDone();
        Heaps.isStillQuiet(run, 2);
        run.call(name, n).isDone();
        run.marked(1).isYes();
    }

    private void refused(int n) {
        new Run().call(name, n).isBadArgument();
        Heaps.small().call(name, n).isBadArgument();
        Run run = Heaps.smallInCycle();
        run.call(name, n).isBadArgument();
        run.mark(5000);
        run.call(name, n).isBadArgument();
        Heaps.isStillQuiet(run, 2);
        run.call(name, n).isBadArgument();
        run.marked(1).isYes();
    }

    private void farOff() {
        for (int n : Heaps.FAR) {
            refused(n);
        }
    }

    /** What would be marked or gone over too early is no longer reached when the cycle begins. */
    private void beforeTheFirst() {
        Run run = Heaps.small();
        run.call(name, 5000).isDone();
        run.root(0, NONE);
        run.begin().isDone();
        run.finish().is(0);
        run.marked(0).isNo();
    }

    private void afterTheLast() {
        Run run = Heaps.smallInCycle();
        run.finish().is(2);
        run.call(name, 5000).isDone();
        run.marked(0).isYes();
        run.marked(2).isNo();
        run.lost().is(0);
        run.root(0, 2).is(0);
        run.call(name, 5000).isDone();
        run.lost().isBadState();
        run.begin().isDone();
        run.finish().is(1);
        run.marked(0).isNo();
    }

    private void beginsNone() {
        Run run = Heaps.small();
        run.call(name, 5000).isDone();
        run.count(5).is(0);
        run.finish().isBadState();
        run.count(3).is(0);
    }

    private void nothingMore() {
        Run run = Heaps.smallInCycle();
        for (int i = 0; i < 20; i++) {
            run.mark(5000).isDone();
            run.preclean(5000).isDone();
        }
        run.call(name, 5000).isDone();
        run.call(name, 1).isDone();
        Heaps.isStillQuiet(run, 2);
        run.marked(2).isNo();
    }

    private void nothingAtAll() {
        Run run = new Run();
        run.begin().isDone();
        run.call(name, 5000).isDone();
        run.finish().is(0);
    }

    private void staysQuiet() {
        for (int n = 0; n <= 60; n++) {
            Run run = Heaps.smallInCycle();
            run.call(name, n).isDone();
            Heaps.isStillQuiet(run, 2);
            run.call(name, n).isDone();
            run.marked(0).isYes();
            run.lost().is(0);
        }
    }
}
