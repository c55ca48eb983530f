public final class Promise02MakeTest {
    public static void main(String[] args) {
        Check.sentence("makes an object: its number", Promise02MakeTest::numbers);
        Check.sentence("makes an object with so many fields, each from 0 to 20", Promise02MakeTest::eachWidth);
        Check.sentence("makes an object: it is not reached", Promise02MakeTest::notReached);
        Check.sentence("makes an object in a cycle", Promise02MakeTest::inCycle);
        Check.sentence("fields 0 is taken", () -> Heaps.small().make(0).is(3));
        Check.sentence("fields 20 is taken", () -> Heaps.small().make(20).is(3));
        Check.sentence("fields -1 is refused", () -> Heaps.small().make(-1).isBadArgument());
        Check.sentence("fields 21 is refused", () -> Heaps.small().make(21).isBadArgument());
        Check.sentence("fields far off are refused", Promise02MakeTest::farFields);
        Check.sentence("fields -1 and 21 are refused in a cycle", Promise02MakeTest::wrongInCycle);
        Check.sentence("the 400th is made", () -> Heaps.withObjects(399, 0).make(0).is(399));
        Check.sentence("there are 400: refused", () -> Heaps.full(0).make(0).isBadState());
        Check.sentence("there are 400: refused in a cycle, which stays quiet", Promise02MakeTest::fullInCycle);
        Check.sentence("there are 400: refused when finished, which still holds", Promise02MakeTest::fullFinished);
        Check.sentence("there are 400, and fields is wrong", Promise02MakeTest::fullAndWrong);
        Check.sentence("refused ones do not count towards 400", Promise02MakeTest::refusedDoNotCount);
        Check.end();
    }

    private static void numbers() {
        Run run = new Run();
        for (int k = 0; k < 400; k++) {
            run.make(k % 21).is(k);
        }
        run.count(0).is(400);
    }

    private static void eachWidth() {
        for (int fields = 0; fields <= 20; fields++) {
            Run run = new Run();
            run.make(20).is(0);
            run.make(fields).is(1);
            run.make(20).is(2);
            run.count(1).is(40 + fields);
            for (int field = 0; field < fields; field++) {
                run.get(1, field).isNothing();
            }
            run.get(1, fields).isNoSuchElement();
            run.set(1, fields, 0).isNoSuchElement();
        }
    }

    private static void notReached() {
        Run run = Heaps.small();
        run.make(1).is(3);
        run.count(2).is(2);
        run.begin().isDone();
        run.finish().is(2);
        run.marked(3).isNo();
    }

    private static void inCycle() {
        Run run = Heaps.smallInCycle();
        run.mark(5000);
        run.make(2).is(3);
        run.get(3, 1).isNothing();
        run.set(3, 0, 0).isNothing();
        run.finish().isNothing();
        run.lost().is(0);
        run.count(0).is(4);
        run.count(1).is(8);
    }

    private static void farFields() {
        Run run = Heaps.small();
        for (int fields : Heaps.FAR) {
            run.make(fields).isBadArgument();
        }
    }

    private static void wrongInCycle() {
        Run run = Heaps.smallInCycle();
        run.make(-1).isBadArgument();
        run.make(21).isBadArgument();
        Heaps.isStillQuiet(run, 2);
    }

    private static void fullInCycle() {
        Run run = Heaps.full(1);
        run.root(0, 399);
        run.begin().isDone();
        run.make(0).isBadState();
        run.make(20).isBadState();
        Heaps.isStillQuiet(run, 1);
    }

    private static void fullFinished() {
        Run run = Heaps.full(1);
        run.root(0, 399);
        run.begin().isDone();
        run.finish().is(1);
        run.make(1).isBadState();
        run.marked(399).isYes();
        run.lost().is(0);
    }

    private static void fullAndWrong() {
        Run run = Heaps.full(1);
        run.make(-1).isBadArgument();
        run.make(21).isBadArgument();
        run.make(Integer.MAX_VALUE).isBadArgument();
        run.make(Integer.MIN_VALUE).isBadArgument();
    }

    private static void refusedDoNotCount() {
        Run run = new Run();
        for (int i = 0; i < 20; i++) {
            run.make(21).isBadArgument();
        }
        for (int k = 0; k < 400; k++) {
            run.make(0).is(k);
        }
        run.make(0).isBadState();
    }
}
