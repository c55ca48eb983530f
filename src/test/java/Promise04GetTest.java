public final class Promise04GetTest {
    private static final int NONE = PileMarker.NONE;

    public static void main(String[] args) {
        Check.sentence("what a field has", Promise04GetTest::eachField);
        Check.sentence("NONE: nothing, at first", () -> Heaps.small().get(0, 1).isNothing());
        Check.sentence("NONE: nothing again", Promise04GetTest::nothingAgain);
        Check.sentence("what a field has, in a cycle and after it", Promise04GetTest::inAnyState);
        Check.sentence("no change: a cycle stays quiet", Promise04GetTest::staysQuiet);
        Check.sentence("k 0 and the last k are taken", Promise04GetTest::outerObjects);
        Check.sentence("k -1 is refused", () -> refused(-1, 0));
        Check.sentence("k that is not made yet is refused", () -> refused(3, 0));
        Check.sentence("k far off is refused", Promise04GetTest::farObjects);
        Check.sentence("field -1 is refused", () -> refused(1, -1));
        Check.sentence("a field behind the object's last is refused", () -> refused(0, 2));
        Check.sentence("field 0 and field 19 of 20 are taken, -1 and 20 refused", Promise04GetTest::outerFields);
        Check.sentence("any field of an object with none is refused", Promise04GetTest::noFields);
        Check.sentence("a field far off is refused", Promise04GetTest::farFields);
        Check.end();
    }

    private static void eachField() {
        Run run = Heaps.withObjects(21, 20);
        for (int field = 0; field < 20; field++) {
            run.set(field, field, field + 1);
        }
        for (int field = 0; field < 20; field++) {
            run.get(field, field).is(field + 1);
            run.get(20, field).isNothing();
        }
    }

    private static void nothingAgain() {
        Run run = Heaps.small();
        run.get(0, 0).is(1);
        run.set(0, 0, NONE);
        run.get(0, 0).isNothing();
    }

    private static void inAnyState() {
        Run run = Heaps.smallInCycle();
        run.get(0, 0).is(1);
        run.mark(5000);
        run.get(0, 0).is(1);
        run.get(2, 1).isNothing();
        run.finish().is(2);
        run.get(0, 0).is(1);
        run.get(0, 1).isNothing();
    }

    private static void staysQuiet() {
        Run run = Heaps.smallInCycle();
        run.get(0, 0).is(1);
        Heaps.isStillQuiet(run, 2);
        run.get(0, 0).is(1);
        run.marked(1).isYes();
        run.lost().is(0);
    }

    private static void outerObjects() {
        Run run = Heaps.full(1);
        run.set(0, 0, 7);
        run.set(399, 0, 8);
        run.get(0, 0).is(7);
        run.get(399, 0).is(8);
        run.get(400, 0).isNoSuchElement();
    }

    private static void refused(int k, int field) {
        Heaps.small().get(k, field).isNoSuchElement();
        Run inCycle = Heaps.smallInCycle();
        inCycle.get(k, field).isNoSuchElement();
        Heaps.isStillQuiet(inCycle, 2);
        Run finished = Heaps.smallFinished();
        finished.get(k, field).isNoSuchElement();
        finished.lost().is(0);
    }

    private static void farObjects() {
        for (int k : Heaps.FAR) {
            refused(k, 0);
        }
    }

    private static void outerFields() {
        Run run = Heaps.withObjects(3, 20);
        run.get(1, 0).isNothing();
        run.get(1, 19).isNothing();
        run.get(1, -1).isNoSuchElement();
        run.get(1, 20).isNoSuchElement();
        run.get(2, -20).isNoSuchElement();
    }

    private static void noFields() {
        Run run = Heaps.withObjects(2, 0);
        run.get(0, 0).isNoSuchElement();
        run.get(1, 0).isNoSuchElement();
        run.get(1, 19).isNoSuchElement();
        run.get(1, -1).isNoSuchElement();
    }

    private static void farFields() {
        for (int field : Heaps.FAR) {
            refused(0, field);
        }
    }
}
