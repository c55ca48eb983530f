public final class Promise07BeginTest {
    private static final int NONE = PileMarker.NONE;

    public static void main(String[] args) {
        Check.sentence("a cycle begins", Promise07BeginTest::begins);
        Check.sentence("a cycle begins with no objects", Promise07BeginTest::withNoObjects);
        Check.sentence("a cycle begins after one was finished", () -> Heaps.smallFinished().begin().isDone());
        Check.sentence("no object is marked: the marks of the cycle before are gone", Promise07BeginTest::noMarks);
        Check.sentence("no object is marked: steps without a cycle leave none", Promise07BeginTest::noMarksBefore);
        Check.sentence("no object is marked: changes of the cycle before are gone", Promise07BeginTest::noChanges);
        Check.sentence("there is one: refused", () -> Heaps.smallInCycle().begin().isBadState());
        Check.sentence("there is one: refused though all is marked", Promise07BeginTest::refusedWhenMarked);
        Check.sentence("there is one: refused though it is not quiet", Promise07BeginTest::refusedWhenNotQuiet);
        Check.sentence("there is one: the refused begin() leaves it quiet", Promise07BeginTest::staysQuiet);
        Check.sentence("there is one: refused in a second cycle too", Promise07BeginTest::refusedInSecond);
        Check.end();
    }

    private static void begins() {
        Run run = Heaps.small();
        run.begin().isDone();
        run.count(5).is(1);
        run.count(3).is(0);
        run.marked(0).isBadState();
    }

    private static void withNoObjects() {
        Run run = new Run();
        run.begin().isDone();
        run.mark(5000).isDone();
        run.preclean(5000).isDone();
        run.count(5).is(1);
        run.finish().is(0);
    }

    private static void noMarks() {
        Run run = Heaps.smallFinished();
        run.root(0, 2).is(0);
        run.begin().isDone();
        run.finish().is(1);
        run.marked(0).isNo();
        run.marked(1).isNo();
        run.marked(2).isYes();
        run.root(0, NONE).is(2);
        run.begin().isDone();
        run.finish().is(0);
        run.marked(2).isNo();
    }

    private static void noMarksBefore() {
        Run run = Heaps.small();
        run.mark(5000).isDone();
        run.preclean(5000).isDone();
        run.root(0, NONE).is(0);
        run.begin().isDone();
        run.finish().is(0);
        run.marked(0).isNo();
    }

    private static void noChanges() {
        Run run = Heaps.smallFinishedNotQuiet();
        run.set(0, 0, NONE).is(1);
        run.begin().isDone();
        run.preclean(5000).isDone();
        run.finish().is(1);
        run.marked(1).isNo();
    }

    private static void refusedWhenMarked() {
        Run run = Heaps.smallInCycle();
        run.mark(5000);
        run.begin().isBadState();
        run.finish().is(2);
    }

    private static void refusedWhenNotQuiet() {
        Run run = Heaps.smallInCycle();
        run.set(0, 0, NONE).is(1);
        run.begin().isBadState();
        run.finish().isNothing();
        run.count(4).is(0);
    }

    private static void staysQuiet() {
        Run run = Heaps.smallInCycle();
        run.begin().isBadState();
        Heaps.isStillQuiet(run, 2);
    }

    private static void refusedInSecond() {
        Run run = Heaps.smallFinished();
        run.begin().isDone();
        run.begin().isBadState();
        run.finish().is(2);
        run.count(3).is(2);
    }
}
