import java.util.NoSuchElementException;

public final class Promise04GetTest {
    public static void main(String[] args) {
        PileMarker x = new PileMarker();
        x.make(20);
        x.make(1);
        for (int i = 0; i < 20; i++) {
            int field = i;
            Check.due("get(0, " + i + ") at first", -1, () -> x.get(0, field));
            x.set(0, i, i % 2);
        }
        for (int i = 0; i < 20; i++) {
            int field = i;
            Check.due("get(0, " + i + ")", i % 2, () -> x.get(0, field));
        }
        Check.due("get(1, 0)", -1, () -> x.get(1, 0));
        x.set(0, 7, PileMarker.NONE);
        Check.due("get(0, 7) of nothing", -1, () -> x.get(0, 7));
        x.root(3, 0);
        x.begin();
        Check.due("get(0, 8) in a cycle", 0, () -> x.get(0, 8));
        wrong(x);
        Check.due("finish(): a get() is no change", 2, x::finish);
        Check.due("get(0, 9) after it", 1, () -> x.get(0, 9));
        wrong(x);
        Check.due("lost()", 0, x::lost);
        Check.end();
    }

    private static void wrong(PileMarker x) {
        int[][] calls = {
            {-1, 0}, {2, 0}, {400, 0}, {0, -1}, {0, 20}, {1, 1}, {Integer.MAX_VALUE, 0}, {Integer.MIN_VALUE, 0},
            {0, Integer.MAX_VALUE}, {0, Integer.MIN_VALUE},
        };
        for (int[] c : calls) {
            Check.refused(x, "get(" + c[0] + ", " + c[1] + ")", NoSuchElementException.class, () -> x.get(c[0], c[1]));
        }
    }
}
