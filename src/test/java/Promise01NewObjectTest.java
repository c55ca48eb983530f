public final class Promise01NewObjectTest {
    private static final int NONE = PileMarker.NONE;

    public static void main(String[] args) {
        Check.sentence("no objects: none is counted", Promise01NewObjectTest::nothingCounted);
        Check.sentence("no objects: there is no object 0", Promise01NewObjectTest::noObjectZero);
        Check.sentence("no objects: no root has one", Promise01NewObjectTest::emptyRoots);
        Check.sentence("no objects: the first to be made is 0", () -> new Run().make(0).is(0));
        Check.sentence("the marker remembers eight", () -> new Run().pile(1).is(8));
        Check.sentence("no cycle: one can begin", () -> new Run().begin().isDone());
        Check.sentence("no cycle: none can be finished", () -> new Run().finish().isBadState());
        Check.sentence("no cycle: none was finished", Promise01NewObjectTest::noneFinished);
        Check.sentence("a new object, whatever was done with another", Promise01NewObjectTest::twoObjects);
        Check.sentence("NONE is -1", () -> Check.due("NONE", "" + PileMarker.NONE, "-1"));
        Check.end();
    }

    private static void nothingCounted() {
        Run run = new Run();
        for (int what = 0; what <= 5; what++) {
            run.count(what).is(0);
        }
    }

    private static void noObjectZero() {
        Run run = new Run();
        run.get(0, 0).isNoSuchElement();
        run.set(0, 0, 0).isNoSuchElement();
        run.set(0, 0, NONE).isNoSuchElement();
        run.root(0, 0).isNoSuchElement();
        run.marked(0).isNoSuchElement();
    }

    private static void emptyRoots() {
        Run run = new Run();
        for (int i = 0; i < 16; i++) {
            run.root(i, NONE).isNothing();
        }
    }

    private static void noneFinished() {
        Run run = new Run();
        run.lost().isBadState();
        run.count(3).is(0);
        run.count(5).is(0);
    }

    private static void twoObjects() {
        Run other = Heaps.smallInCycle();
        other.mark(5000);
        Run used = Heaps.full(20);
        used.pile(3);
        nothingCounted();
        noObjectZero();
        emptyRoots();
        new Run().pile(5).is(8);
        other.finish().is(2);
    }
}
