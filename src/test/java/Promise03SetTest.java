import java.util.NoSuchElementException;

public final class Promise03SetTest {
    public static void main(String[] args) {
        ordinary();
        wrong();
        Check.end();
    }

    private static void ordinary() {
        PileMarker x = new PileMarker();
        x.make(2);
        x.make(20);
        x.make(0);
        Check.due("set(0, 0, 1)", -1, () -> x.set(0, 0, 1));
        Check.due("set(0, 1, 0)", -1, () -> x.set(0, 1, 0));
        Check.due("set(1, 19, 2)", -1, () -> x.set(1, 19, 2));
        Check.due("set(0, 0, 2)", 1, () -> x.set(0, 0, 2));
        Check.due("set(0, 0, 2) again", 2, () -> x.set(0, 0, 2));
        Check.due("set(0, 0, NONE)", 2, () -> x.set(0, 0, PileMarker.NONE));
        Check.due("set(0, 0, NONE) again", -1, () -> x.set(0, 0, PileMarker.NONE));
        Check.due("get(0, 1)", 0, () -> x.get(0, 1));
        Check.due("get(1, 19)", 2, () -> x.get(1, 19));
        Check.due("get(1, 0)", -1, () -> x.get(1, 0));
    }

    private static void wrong() {
        PileMarker x = new PileMarker();
        x.make(2);
        x.make(0);
        x.set(0, 1, 1);
        x.root(0, 0);
        refuseAll(x);
        x.begin();
        refuseAll(x);
        Check.due("finish(): still quiet", 2, x::finish);
        refuseAll(x);
        Check.dueYes("marked(1)", true, x.marked(1));
    }

    private static void refuseAll(PileMarker x) {
        int[][] calls = {
            {-1, 0, 0}, {2, 0, 0}, {400, 0, 0}, {Integer.MAX_VALUE, 0, 0}, {Integer.MIN_VALUE, 0, 0},
            {0, -1, 0}, {0, 2, 0}, {0, 20, 0}, {1, 0, 0}, {0, Integer.MAX_VALUE, 0}, {0, Integer.MIN_VALUE, 0},
            {0, 0, 2}, {0, 1, -2}, {0, 0, 400}, {0, 1, Integer.MAX_VALUE}, {0, 1, Integer.MIN_VALUE},
            {1, 0, PileMarker.NONE}, {2, 0, PileMarker.NONE}, {-1, -1, -1},
        };
        for (int[] c : calls) {
            Check.refused(x, "set(" + c[0] + ", " + c[1] + ", " + c[2] + ")",
                NoSuchElementException.class, () -> x.set(c[0], c[1], c[2]));
        }
    }
}
