public final class Promise02MakeTest {
    public static void main(String[] args) {
        numbersAndFields();
        wrongFields();
        fourHundred();
        Check.end();
    }

    private static void numbersAndFields() {
        PileMarker x = new PileMarker();
        Check.due("make(0)", 0, () -> x.make(0));
        Check.due("make(20)", 1, () -> x.make(20));
        Check.due("make(1)", 2, () -> x.make(1));
        Check.dueNoElement("get(0, 0): no field", () -> x.get(0, 0));
        for (int i = 0; i < 20; i++) {
            int field = i;
            Check.due("get(1, " + i + ")", -1, () -> x.get(1, field));
        }
        Check.dueNoElement("get(1, 20)", () -> x.get(1, 20));
        Check.due("count(2)", 0, () -> x.count(2));
        x.begin();
        Check.due("make(3) in a cycle", 3, () -> x.make(3));
        Check.due("finish() after it", -1, x::finish);
    }

    private static void wrongFields() {
        PileMarker x = new PileMarker();
        x.make(2);
        x.root(0, 0);
        int[] wrong = {-1, 21, 22, Integer.MIN_VALUE, Integer.MAX_VALUE};
        for (int fields : wrong) {
            Check.refused(x, "make(" + fields + ")", IllegalArgumentException.class, () -> x.make(fields));
        }
        x.begin();
        Check.refused(x, "make(21) in a cycle", IllegalArgumentException.class, () -> x.make(21));
        Check.due("finish(): still quiet", 1, x::finish);
        Check.refused(x, "make(-1) when finished", IllegalArgumentException.class, () -> x.make(-1));
        Check.due("make(0) after the refused ones", 1, () -> x.make(0));
    }

    private static void fourHundred() {
        PileMarker x = new PileMarker();
        for (int i = 0; i < 400; i++) {
            Check.due("make number " + i, i, () -> x.make(20));
        }
        x.root(15, 399);
        Check.due("set(399, 19, 398)", -1, () -> x.set(399, 19, 398));
        x.begin();
        Check.refused(x, "make(0) with 400", IllegalStateException.class, () -> x.make(0));
        Check.refused(x, "make(20) with 400", IllegalStateException.class, () -> x.make(20));
        Check.refused(x, "make(21) with 400", IllegalArgumentException.class, () -> x.make(21));
        Check.due("finish(): still quiet", 2, x::finish);
        Check.refused(x, "make(1) with 400, finished", IllegalStateException.class, () -> x.make(1));
        Check.due("count(0)", 400, () -> x.count(0));
        Check.due("count(1)", 8000, () -> x.count(1));
    }
}
