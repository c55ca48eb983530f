public final class Promise03SetTest {
    private static final int NONE = PileMarker.NONE;

    public static void main(String[] args) {
        ordinary();
        Check.sentence("k 0 and the last k are taken", Promise03SetTest::outerObjects);
        Check.sentence("k -1 is refused", () -> refused(-1, 0, 1));
        Check.sentence("k that is not made yet is refused", () -> refused(3, 0, 1));
        Check.sentence("k is made, then taken", Promise03SetTest::madeThenTaken);
        Check.sentence("k far off is refused", Promise03SetTest::farObjects);
        Check.sentence("field 0 and the last field are taken", Promise03SetTest::outerFields);
        Check.sentence("field -1 is refused", () -> refused(1, -1, 1));
        Check.sentence("a field behind the object's last is refused", () -> refused(1, 2, 1));
        Check.sentence("any field of an object with none is refused", Promise03SetTest::noFields);
        Check.sentence("field 20 of an object with 20 is refused", Promise03SetTest::field20);
        Check.sentence("a field far off is refused", Promise03SetTest::farFields);
        Check.sentence("other 0 and the last other are taken", Promise03SetTest::outerOthers);
        Check.sentence("other NONE is taken", () -> Heaps.small().set(0, 0, NONE).is(1));
        Check.sentence("other -2 is refused", () -> refused(0, 0, -2));
        Check.sentence("other that is not made yet is refused", () -> refused(0, 0, 3));
        Check.sentence("other far off is refused", Promise03SetTest::farOthers);
        Check.sentence("k is refused even with other NONE", () -> refused(3, 0, NONE));
        Check.sentence("field is refused even with other NONE", () -> refused(0, 2, NONE));
        Check.sentence("k, field and other are refused at once", () -> refused(-2, -2, -2));
        Check.end();
    }

    private static void ordinary() {
        Check.sentence("a field becomes an object: what it was", Promise03SetTest::whatItWas);
        Check.sentence("a field becomes what it was already", Promise03SetTest::sameAgain);
        Check.sentence("a field becomes the object itself", Promise03SetTest::itself);
        Check.sentence("no other field changes", Promise03SetTest::neighbours);
        Check.sentence("a field of an object that is not reached", Promise03SetTest::unreached);
        Check.sentence("a field becomes another in a cycle", Promise03SetTest::inCycle);
    }

    private static void whatItWas() {
        Run run = Heaps.withObjects(3, 2);
        run.set(0, 1, 1).isNothing();
        run.set(0, 1, 2).is(1);
        run.get(0, 1).is(2);
        run.set(0, 1, NONE).is(2);
        run.get(0, 1).isNothing();
        run.set(0, 1, 0).isNothing();
        run.get(0, 1).is(0);
    }

    private static void sameAgain() {
        Run run = Heaps.small();
        run.set(0, 0, 1).is(1);
        run.get(0, 0).is(1);
        run.set(0, 1, NONE).isNothing();
        run.get(0, 1).isNothing();
    }

    private static void itself() {
        Run run = Heaps.small();
        run.set(0, 0, 0).is(1);
        run.get(0, 0).is(0);
        run.begin().isDone();
        run.finish().is(1);
    }

    private static void neighbours() {
        Run run = Heaps.withObjects(3, 20);
        run.set(1, 0, 0);
        run.set(1, 19, 2);
        run.get(0, 19).isNothing();
        run.get(2, 0).isNothing();
        for (int field = 1; field < 19; field++) {
            run.get(1, field).isNothing();
        }
        run.get(1, 0).is(0);
        run.get(1, 19).is(2);
    }

    private static void unreached() {
        Run run = Heaps.small();
        run.set(2, 0, 1).isNothing();
        run.set(2, 0, 2).is(1);
        run.count(2).is(2);
    }

    private static void inCycle() {
        Run run = Heaps.smallInCycle();
        run.mark(5000);
        run.set(1, 1, 2).isNothing();
        run.get(1, 1).is(2);
        run.finish().isNothing();
        run.lost().is(0);
        run.count(2).is(3);
    }

    private static void outerObjects() {
        Run run = Heaps.small();
        run.set(0, 1, 1).isNothing();
        run.set(2, 1, 1).isNothing();
        Run full = Heaps.full(1);
        full.set(0, 0, 1).isNothing();
        full.set(399, 0, 1).isNothing();
        full.set(400, 0, 1).isNoSuchElement();
    }

    /** In each state that a run can be in. */
    private static void refused(int k, int field, int other) {
        Heaps.small().set(k, field, other).isNoSuchElement();
        Run inCycle = Heaps.smallInCycle();
        inCycle.set(k, field, other).isNoSuchElement();
        Heaps.isStillQuiet(inCycle, 2);
        Run finished = Heaps.smallFinished();
        finished.set(k, field, other).isNoSuchElement();
        finished.marked(0).isYes();
        finished.get(0, 0).is(1);
    }

    private static void madeThenTaken() {
        Run run = Heaps.small();
        run.set(3, 0, 0).isNoSuchElement();
        run.set(0, 0, 3).isNoSuchElement();
        run.make(1).is(3);
        run.set(3, 0, 0).isNothing();
        run.set(0, 0, 3).is(1);
    }

    private static void farObjects() {
        for (int k : Heaps.FAR) {
            refused(k, 0, 1);
        }
    }

    private static void outerFields() {
        Run run = Heaps.withObjects(2, 20);
        run.set(0, 0, 1).isNothing();
        run.set(0, 19, 1).isNothing();
        run.get(0, 0).is(1);
        run.get(0, 19).is(1);
    }

    private static void noFields() {
        Run run = Heaps.withObjects(2, 0);
        run.make(3).is(2);
        run.set(0, 0, 0).isNoSuchElement();
        run.set(1, 0, NONE).isNoSuchElement();
        run.set(1, 19, 0).isNoSuchElement();
        run.set(2, 2, 0).isNothing();
    }

    private static void field20() {
        Run run = Heaps.withObjects(2, 20);
        run.set(0, 20, 1).isNoSuchElement();
        run.set(1, 20, 1).isNoSuchElement();
        run.set(1, -20, 1).isNoSuchElement();
    }

    private static void farFields() {
        for (int field : Heaps.FAR) {
            refused(0, field, 1);
        }
    }

    private static void outerOthers() {
        Run run = Heaps.small();
        run.set(0, 0, 0).is(1);
        run.set(0, 0, 2).is(0);
        Run full = Heaps.full(1);
        full.set(5, 0, 399).isNothing();
        full.set(5, 0, 400).isNoSuchElement();
        full.get(5, 0).is(399);
    }

    private static void farOthers() {
        for (int other : Heaps.FAR) {
            refused(0, 0, other);
        }
    }
}
