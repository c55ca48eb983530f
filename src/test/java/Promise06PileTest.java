public final class Promise06PileTest {
    public static void main(String[] args) {
        PileMarker x = new PileMarker();
        Check.due("pile(1)", 8, () -> x.pile(1));
        Check.due("pile(64)", 1, () -> x.pile(64));
        Check.due("pile(64) again", 64, () -> x.pile(64));
        int[] wrong = {0, -1, 65, Integer.MAX_VALUE, Integer.MIN_VALUE};
        for (int n : wrong) {
            Check.refused(x, "pile(" + n + ")", IllegalArgumentException.class, () -> x.pile(n));
        }
        Check.due("pile(5)", 64, () -> x.pile(5));
        x.make(0);
        x.root(0, 0);
        x.begin();
        Check.refused(x, "pile(3) in a cycle", IllegalStateException.class, () -> x.pile(3));
        Check.refused(x, "pile(5) in a cycle", IllegalStateException.class, () -> x.pile(5));
        Check.refused(x, "pile(0) in a cycle", IllegalArgumentException.class, () -> x.pile(0));
        Check.refused(x, "pile(65) in a cycle", IllegalArgumentException.class, () -> x.pile(65));
        Check.due("finish()", 1, x::finish);
        Check.due("pile(2)", 5, () -> x.pile(2));
        Check.dueYes("marked(0): a pile() is no change", true, x.marked(0));
        Check.due("lost() likewise", 0, x::lost);
        everyPile();
        Check.end();
    }

    /** However few are remembered, a wide and a deep heap are marked whole. */
    private static void everyPile() {
        for (int n = 1; n <= 64; n++) {
            PileMarker x = new PileMarker();
            x.pile(n);
            int objects = 150;
            for (int k = 0; k < objects; k++) {
                x.make(20);
            }
            // Object 149 refers to 148 .. 129, each of these to lower ones: the forgotten lie behind.
            int next = objects - 2;
            for (int k = objects - 1; k > 0 && next >= 0; k--) {
                for (int field = 0; field < 20 && next >= 0; field++) {
                    x.set(k, field, next);
                    next--;
                }
            }
            x.root(9, objects - 1);
            x.begin();
            x.mark(n);
            Check.due("finish() with pile " + n, objects, x::finish);
            Check.due("lost() with pile " + n, 0, x::lost);
        }
    }
}
