public final class Promise07BeginTest {
    public static void main(String[] args) {
        PileMarker x = new PileMarker();
        x.make(1);
        x.make(1);
        x.set(0, 0, 1);
        x.root(0, 0);
        Check.dueDone("begin()", x::begin);
        Check.due("count(5)", 1, () -> x.count(5));
        Check.refused(x, "begin() in a cycle", IllegalStateException.class, () -> { x.begin(); return 0; });
        x.mark(100);
        Check.refused(x, "begin() in a marked cycle", IllegalStateException.class, () -> { x.begin(); return 0; });
        Check.due("finish()", 2, x::finish);
        x.root(0, 1);
        Check.dueDone("begin() after it", x::begin);
        Check.due("finish(): the old marks are gone", 1, x::finish);
        Check.dueYes("marked(0)", false, x.marked(0));
        Check.dueYes("marked(1)", true, x.marked(1));
        x.begin();
        Check.dueBadState("marked(1) in a new cycle", () -> x.marked(1) ? 1 : 0);
        x.set(0, 0, 0);
        Check.dueBadState("begin() in a cycle that is not quiet", () -> { x.begin(); return 0; });
        Check.due("finish(): a refused begin() makes none quiet", -1, x::finish);
        x.root(0, PileMarker.NONE);
        x.begin();
        Check.due("finish(): the change was before it began", 0, x::finish);
        Check.end();
    }
}
