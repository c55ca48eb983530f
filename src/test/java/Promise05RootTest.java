import java.util.NoSuchElementException;

public final class Promise05RootTest {
    public static void main(String[] args) {
        ordinary();
        wrong();
        Check.end();
    }

    private static void ordinary() {
        PileMarker x = new PileMarker();
        x.make(0);
        x.make(0);
        Check.due("root(0, 0)", -1, () -> x.root(0, 0));
        Check.due("root(15, 1)", -1, () -> x.root(15, 1));
        Check.due("count(2)", 2, () -> x.count(2));
        Check.due("root(0, 1)", 0, () -> x.root(0, 1));
        Check.due("count(2) of the same in both", 1, () -> x.count(2));
        Check.due("root(0, 1) again", 1, () -> x.root(0, 1));
        Check.due("root(0, NONE)", 1, () -> x.root(0, PileMarker.NONE));
        Check.due("count(2) with one left", 1, () -> x.count(2));
        Check.due("root(0, NONE) again", -1, () -> x.root(0, PileMarker.NONE));
        Check.due("root(15, NONE)", 1, () -> x.root(15, PileMarker.NONE));
        Check.due("count(2) with none", 0, () -> x.count(2));
    }

    private static void wrong() {
        PileMarker x = new PileMarker();
        x.make(0);
        x.make(0);
        x.root(4, 1);
        refuseAll(x);
        x.begin();
        refuseAll(x);
        Check.due("finish(): still quiet", 1, x::finish);
        refuseAll(x);
        Check.dueYes("marked(1)", true, x.marked(1));
        for (int i = 0; i < 16; i++) {
            int root = i;
            Check.due("root(" + i + ", NONE)", i == 4 ? 1 : -1, () -> x.root(root, PileMarker.NONE));
        }
    }

    private static void refuseAll(PileMarker x) {
        int[][] calls = {
            {-1, 0}, {16, 0}, {Integer.MAX_VALUE, 0}, {Integer.MIN_VALUE, 0}, {16, PileMarker.NONE},
            {0, 2}, {4, -2}, {15, 400}, {4, Integer.MAX_VALUE}, {4, Integer.MIN_VALUE},
        };
        for (int[] c : calls) {
            Check.refused(x, "root(" + c[0] + ", " + c[1] + ")", NoSuchElementException.class, () -> x.root(c[0], c[1]));
        }
    }
}
