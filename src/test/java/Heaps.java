/** Beginnings of runs that several tests need. */
final class Heaps {
    static final int MOST_OBJECTS = 400;
    /** Far off on both sides, so that arithmetic on them wraps around. */
    static final int[] FAR = {Integer.MIN_VALUE, Integer.MIN_VALUE + 1, Integer.MAX_VALUE - 1, Integer.MAX_VALUE};

    private Heaps() {
    }

    static Run withObjects(int objects, int fields) {
        Run run = new Run();
        for (int k = 0; k < objects; k++) {
            run.make(fields).is(k);
        }
        return run;
    }

    static Run full(int fields) {
        return withObjects(MOST_OBJECTS, fields);
    }

    /** Root 0 has 0, which has 1; object 2 is not reached. Each has two fields. */
    static Run small() {
        Run run = withObjects(3, 2);
        run.root(0, 0).isNothing();
        run.set(0, 0, 1).isNothing();
        return run;
    }

    static Run smallInCycle() {
        Run run = small();
        run.begin().isDone();
        return run;
    }

    static Run smallFinished() {
        Run run = smallInCycle();
        run.finish().is(2);
        return run;
    }

    static Run smallFinishedNotQuiet() {
        Run run = smallInCycle();
        run.set(0, 0, 1).is(1);
        run.finish().isNothing();
        return run;
    }

    static void isStillQuiet(Run run, int reached) {
        run.finish().is(reached);
        run.count(4).is(1);
    }

    static void cycle(Run run) {
        run.begin().isDone();
        run.finish();
    }
}
