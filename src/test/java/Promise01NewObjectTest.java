public final class Promise01NewObjectTest {
    public static void main(String[] args) {
        PileMarker x = new PileMarker();
        for (int what = 0; what <= 5; what++) {
            int asked = what;
            Check.due("count(" + what + ")", 0, () -> x.count(asked));
        }
        Check.dueNoElement("get(0, 0)", () -> x.get(0, 0));
        for (int i = 0; i < 16; i++) {
            int root = i;
            Check.due("root(" + i + ", NONE)", -1, () -> x.root(root, PileMarker.NONE));
        }
        Check.due("pile(3) of a new one", 8, () -> x.pile(3));
        Check.dueBadState("finish() without a cycle", x::finish);
        Check.dueBadState("lost() without a finished cycle", x::lost);
        PileMarker y = new PileMarker();
        Check.due("pile(5) of another new one", 8, () -> y.pile(5));
        Check.due("the constant NONE", -1, () -> PileMarker.NONE);
        Check.end();
    }
}
