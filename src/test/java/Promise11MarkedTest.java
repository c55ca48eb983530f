import java.util.NoSuchElementException;

public final class Promise11MarkedTest {
    public static void main(String[] args) {
        PileMarker x = new PileMarker();
        Check.dueNoElement("marked(0) of none, none finished", () -> ask(x, 0));
        x.make(1);
        x.make(0);
        x.make(0);
        x.set(0, 0, 2);
        x.root(1, 0);
        refused(x, "none was finished");
        x.begin();
        refused(x, "in the first cycle");
        x.finish();
        holds(x);
        x.get(0, 0);
        x.pile(2);
        x.mark(4);
        x.preclean(4);
        holds(x);
        x.begin();
        refused(x, "in the second cycle");
        x.finish();
        holds(x);
        x.make(0);
        Check.dueBadState("marked(3) after make()", () -> ask(x, 3));
        refused(x, "after make()");
        cycle(x);
        holds(x);
        x.set(0, 0, 2);
        refused(x, "after set() of what was there");
        cycle(x);
        x.root(1, 0);
        refused(x, "after root() of what was there");
        x.begin();
        x.root(1, 0);
        x.finish();
        refused(x, "after a cycle that was not quiet");
        cycle(x);
        holds(x);
        Check.dueYes("marked(3)", false, x.marked(3));
        Check.end();
    }

    private static void cycle(PileMarker x) {
        x.begin();
        x.finish();
    }

    private static long ask(PileMarker x, int k) {
        return x.marked(k) ? 1 : 0;
    }

    private static void holds(PileMarker x) {
        Check.due("marked(0)", 1, () -> ask(x, 0));
        Check.due("marked(1)", 0, () -> ask(x, 1));
        Check.due("marked(2)", 1, () -> ask(x, 2));
        noSuch(x);
    }

    private static void refused(PileMarker x, String when) {
        for (int k = 0; k < 3; k++) {
            int object = k;
            Check.refused(x, "marked(" + k + ") " + when, IllegalStateException.class, () -> ask(x, object));
        }
        noSuch(x);
    }

    private static void noSuch(PileMarker x) {
        int[] wrong = {-1, x.count(0), 400, Integer.MAX_VALUE, Integer.MIN_VALUE};
        for (int k : wrong) {
            Check.refused(x, "marked(" + k + ")", NoSuchElementException.class, () -> ask(x, k));
        }
    }
}
