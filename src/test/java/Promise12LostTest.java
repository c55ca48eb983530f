public final class Promise12LostTest {
    public static void main(String[] args) {
        states();
        hiddenByRoots();
        hiddenInNewOnes();
        hiddenWhileForgotten();
        Check.end();
    }

    private static void states() {
        PileMarker x = new PileMarker();
        Check.refused(x, "lost() of a new one", IllegalStateException.class, x::lost);
        x.begin();
        Check.refused(x, "lost() in the first cycle", IllegalStateException.class, x::lost);
        x.finish();
        Check.due("lost() with no objects", 0, x::lost);
        x.make(1);
        Check.refused(x, "lost() after make()", IllegalStateException.class, x::lost);
        x.begin();
        x.root(0, 0);
        Check.refused(x, "lost() in a cycle", IllegalStateException.class, x::lost);
        x.finish();
        Check.due("lost() of a cycle that was not quiet", 0, x::lost);
        x.pile(1);
        x.mark(5);
        x.preclean(5);
        x.get(0, 0);
        Check.due("lost() after calls that change nothing", 0, x::lost);
        x.root(0, 0);
        Check.refused(x, "lost() after root() of what was there", IllegalStateException.class, x::lost);
        x.begin();
        x.finish();
        x.set(0, 0, PileMarker.NONE);
        Check.refused(x, "lost() after set() of what was there", IllegalStateException.class, x::lost);
    }

    /** An object wanders from root to root, always into one that was looked at. */
    private static void hiddenByRoots() {
        for (int steps = 0; steps <= 20; steps++) {
            PileMarker x = new PileMarker();
            x.make(1);
            x.make(0);
            x.set(0, 0, 1);
            x.root(15, 0);
            x.begin();
            x.mark(steps);
            x.root(0, 0);
            x.root(15, PileMarker.NONE);
            x.root(3, 1);
            x.set(0, 0, PileMarker.NONE);
            Check.due("finish()", -1, x::finish);
            Check.due("lost() after " + steps + " steps", 0, x::lost);
        }
    }

    private static void hiddenInNewOnes() {
        for (int steps = 0; steps <= 30; steps++) {
            PileMarker x = new PileMarker();
            x.make(2);
            x.root(0, 0);
            x.begin();
            x.mark(steps);
            x.make(1);
            x.make(1);
            x.set(1, 0, 2);
            x.preclean(steps % 4);
            x.set(0, 1, 1);
            x.mark(steps % 5);
            x.make(0);
            x.set(2, 0, 3);
            Check.due("finish()", -1, x::finish);
            Check.due("lost() after " + steps + " steps", 0, x::lost);
            Check.due("count(2)", 4, () -> x.count(2));
        }
    }

    /** More than the pile holds at once, and changes while the marker goes over them again. */
    private static void hiddenWhileForgotten() {
        for (int steps = 0; steps <= 120; steps++) {
            PileMarker x = new PileMarker();
            x.pile(1 + steps % 4);
            for (int k = 0; k < 45; k++) {
                x.make(20);
            }
            for (int field = 0; field < 20; field++) {
                x.set(44, field, field);
                x.set(field, field, 43 - field);
            }
            x.root(8, 44);
            x.begin();
            x.mark(steps);
            x.set(30, 2, 20);
            x.set(20, 2, 21);
            x.set(13, 13, 22);
            x.preclean(steps % 50);
            x.set(0, 0, PileMarker.NONE);
            x.set(12, 3, 43);
            x.mark(steps % 7);
            Check.due("finish()", -1, x::finish);
            Check.due("lost() after " + steps + " steps", 0, x::lost);
            x.begin();
            Check.due("finish() marks what is reached", x.count(2), x::finish);
        }
    }
}
