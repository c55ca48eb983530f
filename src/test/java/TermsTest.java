/** "Terms", and the number of calls that an object is used for. */
public final class TermsTest {
    private static final int NONE = PileMarker.NONE;

    public static void main(String[] args) {
        Check.sentence("used for at most 512 calls: the 512th is answered", TermsTest::the512thCall);
        Check.sentence("used for at most 512 calls: 256 cycles are counted", TermsTest::cyclesAlone);
        objects();
        fieldsAndRoots();
        reached();
        quiet();
        exceptions();
        Check.end();
    }

    private static void objects() {
        Check.sentence("objects are 0, 1, 2, ..", TermsTest::numbersWithoutGap);
        Check.sentence("objects, at most 400: the 400th is taken", TermsTest::theLastObject);
        Check.sentence("objects, at most 400: the 401st is refused", TermsTest::oneObjectTooMany);
        Check.sentence("objects, at most 400: there is no object 400", TermsTest::noObject400);
    }

    private static void fieldsAndRoots() {
        Check.sentence("up to 20 fields: 20 are taken, all can be used", TermsTest::twentyFields);
        Check.sentence("up to 20 fields: 21 are refused", () -> Heaps.small().make(21).isBadArgument());
        Check.sentence("up to 20 fields: none is taken", TermsTest::noFields);
        Check.sentence("a field is nothing at first", TermsTest::fieldsAreNothing);
        Check.sentence("a field is nothing or an object", TermsTest::fieldsAreObjects);
        Check.sentence("roots are 0 .. 15: all can be used", TermsTest::sixteenRoots);
        Check.sentence("roots are 0 .. 15: there is no root -1", () -> Heaps.small().root(-1, 1).isNoSuchElement());
        Check.sentence("roots are 0 .. 15: there is no root 16", () -> Heaps.small().root(16, 1).isNoSuchElement());
        Check.sentence("a root is nothing at first", TermsTest::rootsAreNothing);
    }

    private static void reached() {
        Check.sentence("reached: none, with no object in a root", TermsTest::noneReached);
        Check.sentence("reached: an object in a root, by each root", TermsTest::reachedByEachRoot);
        Check.sentence("reached: by each field of a reached one", TermsTest::reachedByEachField);
        Check.sentence("reached: not by a field of one that is not", TermsTest::notReachedByUnreached);
        Check.sentence("reached: round a circle, once each", TermsTest::circle);
        Check.sentence("reached: all of the longest chain, up and down", TermsTest::longestChains);
        Check.sentence("reached: the last of 400 objects", TermsTest::lastOfFull);
    }

    private static void quiet() {
        Check.sentence("a cycle marks by any steps: by none", () -> stepped(0, 0, 0));
        Check.sentence("a cycle marks by any steps: by mark() alone", () -> stepped(5000, 0, 0));
        Check.sentence("a cycle marks by any steps: by preclean() alone", () -> stepped(0, 5000, 0));
        Check.sentence("a cycle marks by any steps: by single ones", TermsTest::singleSteps);
        Check.sentence("quiet: not if an object was made", () -> notQuiet("make", 0));
        Check.sentence("quiet: not if a set() was done", () -> notQuiet("set", 2, 0, 0));
        Check.sentence("quiet: not if a root() was done", () -> notQuiet("root", 1, 1));
        Check.sentence("quiet: not by a set() of what was there already", () -> notQuiet("set", 0, 0, 1));
        Check.sentence("quiet: not by a set() of nothing to nothing", () -> notQuiet("set", 0, 1, NONE));
        Check.sentence("quiet: not by a root() of what was there already", () -> notQuiet("root", 0, 0));
        Check.sentence("quiet: not by a root() of nothing to nothing", () -> notQuiet("root", 15, NONE));
        Check.sentence("quiet: not by a change and back", TermsTest::changeAndBack);
        Check.sentence("quiet: since it began, not before", TermsTest::changesBefore);
        Check.sentence("quiet: though the cycle before was not", TermsTest::quietAfterOther);
        Check.sentence("quiet: whatever is only asked or stepped", TermsTest::onlyAsked);
    }

    private static void exceptions() {
        Check.sentence("IllegalArgumentException, then IllegalStateException: make", TermsTest::makeBothHold);
        Check.sentence("IllegalArgumentException, then IllegalStateException: pile", TermsTest::pileBothHold);
        Check.sentence("NoSuchElementException before IllegalStateException: marked", TermsTest::markedBothHold);
        Check.sentence("such a call changes nothing: no objects", () -> allRefused(new Run()));
        Check.sentence("such a call changes nothing: no cycle yet", () -> allRefused(Heaps.small()));
        Check.sentence("such a call changes nothing: in a cycle", TermsTest::refusedInCycle);
        Check.sentence("such a call changes nothing: in a marked cycle", TermsTest::refusedInMarkedCycle);
        Check.sentence("such a call changes nothing: finished", TermsTest::refusedWhenFinished);
        Check.sentence("such a call changes nothing: 400 objects", TermsTest::refusedWhenFull);
    }

    private static void the512thCall() {
        Run run = Heaps.full(1);
        run.root(15, 399).isNothing();
        while (run.callsLeft() > 4) {
            run.set(399, 0, run.callsLeft());
        }
        run.begin().isDone();
        run.mark(5000).isDone();
        run.finish().is(2);
        run.marked(5).isYes();
        Check.due("calls left", "" + run.callsLeft(), "0");
    }

    private static void cyclesAlone() {
        Run run = new Run();
        for (int i = 0; i < 255; i++) {
            run.begin().isDone();
            run.finish().is(0);
        }
        run.count(3).is(255);
        run.count(4).is(255);
    }

    private static void numbersWithoutGap() {
        Run run = new Run();
        run.make(0).is(0);
        run.make(20).is(1);
        run.make(21).isBadArgument();
        run.make(1).is(2);
        run.begin().isDone();
        run.make(0).is(3);
        run.finish().isNothing();
        run.make(0).is(4);
    }

    private static void theLastObject() {
        Run run = Heaps.withObjects(399, 1);
        run.make(20).is(399);
        run.count(0).is(400);
        run.set(399, 19, 399).isNothing();
        run.get(399, 19).is(399);
        run.root(0, 399).isNothing();
        run.set(0, 0, 399).isNothing();
        run.begin().isDone();
        run.finish().is(1);
        run.marked(399).isYes();
        run.marked(398).isNo();
    }

    private static void oneObjectTooMany() {
        Run run = Heaps.full(2);
        run.make(2).isBadState();
        run.make(0).isBadState();
        run.make(20).isBadState();
        run.count(0).is(400);
    }

    private static void noObject400() {
        Run run = Heaps.full(1);
        run.get(400, 0).isNoSuchElement();
        run.set(400, 0, 0).isNoSuchElement();
        run.set(0, 0, 400).isNoSuchElement();
        run.root(0, 400).isNoSuchElement();
        run.begin().isDone();
        run.finish().is(0);
        run.marked(400).isNoSuchElement();
    }

    private static void twentyFields() {
        Run run = Heaps.withObjects(20, 20);
        for (int field = 0; field < 20; field++) {
            run.set(7, field, field).isNothing();
        }
        for (int field = 0; field < 20; field++) {
            run.get(7, field).is(field);
        }
        run.get(7, 20).isNoSuchElement();
        run.get(7, -1).isNoSuchElement();
    }

    private static void noFields() {
        Run run = new Run();
        run.make(0).is(0);
        run.get(0, 0).isNoSuchElement();
        run.get(0, -1).isNoSuchElement();
        run.count(1).is(0);
    }

    private static void fieldsAreNothing() {
        for (int k = 0; k < 20; k++) {
            Run run = Heaps.withObjects(20, 20);
            for (int field = 0; field < 20; field++) {
                run.get(k, field).isNothing();
            }
        }
        Run full = Heaps.full(20);
        for (int field = 0; field < 20; field++) {
            full.get(399, field).isNothing();
            full.set(399, field, 0).isNothing();
        }
    }

    private static void fieldsAreObjects() {
        Run run = Heaps.withObjects(2, 1);
        run.set(0, 0, 0).isNothing();
        run.get(0, 0).is(0);
        run.set(0, 0, 1).is(0);
        run.get(0, 0).is(1);
        run.set(0, 0, NONE).is(1);
        run.get(0, 0).isNothing();
    }

    private static void sixteenRoots() {
        Run run = Heaps.withObjects(16, 0);
        for (int i = 0; i < 16; i++) {
            run.root(i, 15 - i).isNothing();
        }
        run.count(2).is(16);
        for (int i = 0; i < 16; i++) {
            run.root(i, NONE).is(15 - i);
            run.count(2).is(15 - i);
        }
    }

    private static void rootsAreNothing() {
        Run run = Heaps.withObjects(1, 1);
        for (int i = 0; i < 16; i++) {
            run.root(i, 0).isNothing();
        }
    }

    private static void noneReached() {
        Run run = Heaps.withObjects(3, 1);
        run.set(0, 0, 1);
        run.set(1, 0, 0);
        run.count(2).is(0);
        run.begin().isDone();
        run.mark(5000).isDone();
        run.finish().is(0);
        run.marked(0).isNo();
    }

    private static void reachedByEachRoot() {
        for (int i = 0; i < 16; i++) {
            Run run = Heaps.withObjects(3, 1);
            run.root(i, 1).isNothing();
            run.count(2).is(1);
            run.begin().isDone();
            run.finish().is(1);
            run.marked(0).isNo();
            run.marked(1).isYes();
            run.marked(2).isNo();
        }
    }

    private static void reachedByEachField() {
        for (int field = 0; field < 20; field++) {
            Run run = Heaps.withObjects(3, 20);
            run.root(0, 1).isNothing();
            run.set(1, field, 2).isNothing();
            run.set(2, 19 - field, 0).isNothing();
            run.count(2).is(3);
            run.begin().isDone();
            run.finish().is(3);
        }
    }

    private static void notReachedByUnreached() {
        Run run = Heaps.small();
        run.set(2, 0, 0).isNothing();
        run.set(2, 1, 2).isNothing();
        run.count(2).is(2);
        run.begin().isDone();
        run.finish().is(2);
        run.marked(2).isNo();
    }

    private static void circle() {
        Run run = Heaps.withObjects(100, 2);
        for (int k = 0; k < 100; k++) {
            run.set(k, 0, (k + 1) % 100);
            run.set(k, 1, k);
        }
        run.root(3, 50);
        run.root(4, 50);
        run.root(5, 51);
        run.count(2).is(100);
        run.begin().isDone();
        run.finish().is(100);
    }

    /** 254 objects, as many links, and four calls more are all the calls that there are. */
    private static void longestChains() {
        int objects = 254;
        Run up = Heaps.withObjects(objects, 1);
        up.root(0, 0);
        for (int k = 1; k < objects; k++) {
            up.set(k - 1, 0, k);
        }
        up.begin().isDone();
        up.finish().is(objects);
        up.lost().is(0);
        up.count(2).is(objects);
        Run down = Heaps.withObjects(objects, 1);
        down.root(0, objects - 1);
        for (int k = 1; k < objects; k++) {
            down.set(k, 0, k - 1);
        }
        down.begin().isDone();
        down.finish().is(objects);
        down.lost().is(0);
        down.count(2).is(objects);
    }

    private static void lastOfFull() {
        Run run = Heaps.full(20);
        run.root(15, 399);
        run.set(399, 19, 0);
        run.set(0, 0, 398);
        run.count(2).is(3);
        run.begin().isDone();
        run.finish().is(3);
        run.marked(398).isYes();
        run.marked(397).isNo();
    }

    private static void stepped(int marks, int precleans, int marksAgain) {
        Run run = Heaps.smallInCycle();
        run.mark(marks).isDone();
        run.preclean(precleans).isDone();
        run.mark(marksAgain).isDone();
        run.finish().is(2);
        run.marked(0).isYes();
        run.marked(1).isYes();
        run.marked(2).isNo();
        run.lost().is(0);
    }

    private static void singleSteps() {
        Run run = Heaps.smallInCycle();
        for (int i = 0; i < 100; i++) {
            run.preclean(1).isDone();
            run.mark(1).isDone();
        }
        run.finish().is(2);
        run.lost().is(0);
    }

    /** At the cycle's very start, in its midst, and at its very end. */
    private static void notQuiet(String name, int... args) {
        for (int steps = 0; steps <= 40; steps += 20) {
            Run run = Heaps.smallInCycle();
            run.mark(steps);
            run.call(name, args);
            run.mark(40 - steps);
            run.finish().isNothing();
            run.count(3).is(1);
            run.count(4).is(0);
            run.marked(0).isBadState();
            run.lost().is(0);
        }
        Run first = Heaps.smallInCycle();
        first.call(name, args);
        first.finish().isNothing();
        first.count(4).is(0);
    }

    private static void changeAndBack() {
        Run run = Heaps.smallInCycle();
        run.set(0, 0, NONE).is(1);
        run.set(0, 0, 1).isNothing();
        run.finish().isNothing();
        run.begin().isDone();
        run.root(0, NONE).is(0);
        run.root(0, 0).isNothing();
        run.finish().isNothing();
        run.count(4).is(0);
    }

    private static void changesBefore() {
        Run run = Heaps.smallFinished();
        run.make(2).is(3);
        run.set(1, 1, 3).isNothing();
        run.root(9, 2).isNothing();
        run.begin().isDone();
        run.finish().is(4);
        run.count(4).is(2);
        run.marked(3).isYes();
    }

    private static void quietAfterOther() {
        Run run = Heaps.smallFinishedNotQuiet();
        run.count(4).is(0);
        run.begin().isDone();
        run.finish().is(2);
        run.count(3).is(2);
        run.count(4).is(1);
        run.marked(1).isYes();
    }

    private static void onlyAsked() {
        Run run = Heaps.smallInCycle();
        run.get(0, 0).is(1);
        for (int what = 0; what <= 5; what++) {
            run.count(what);
        }
        run.mark(0).isDone();
        run.mark(5000).isDone();
        run.preclean(0).isDone();
        run.preclean(5000).isDone();
        Heaps.isStillQuiet(run, 2);
    }

    private static void makeBothHold() {
        Run run = Heaps.full(0);
        run.make(-1).isBadArgument();
        run.make(21).isBadArgument();
        run.begin().isDone();
        run.make(21).isBadArgument();
        run.make(20).isBadState();
    }

    private static void pileBothHold() {
        Run run = Heaps.smallInCycle();
        run.pile(0).isBadArgument();
        run.pile(65).isBadArgument();
        run.pile(64).isBadState();
        run.pile(1).isBadState();
    }

    private static void markedBothHold() {
        Run[] runs = {new Run(), Heaps.small(), Heaps.smallInCycle(), Heaps.smallFinishedNotQuiet()};
        for (Run run : runs) {
            run.marked(-1).isNoSuchElement();
            run.marked(3).isNoSuchElement();
        }
        Run changed = Heaps.smallFinished();
        changed.set(2, 0, 0);
        changed.marked(3).isNoSuchElement();
        changed.marked(2).isBadState();
    }

    private static void allRefused(Run run) {
        run.make(-1).isBadArgument();
        run.make(21).isBadArgument();
        run.set(400, 0, 0).isNoSuchElement();
        run.set(0, 20, 0).isNoSuchElement();
        run.set(0, 0, 400).isNoSuchElement();
        run.set(0, 0, -2).isNoSuchElement();
        run.get(400, 0).isNoSuchElement();
        run.get(0, 20).isNoSuchElement();
        run.root(16, NONE).isNoSuchElement();
        run.root(0, 400).isNoSuchElement();
        run.root(0, -2).isNoSuchElement();
        run.pile(0).isBadArgument();
        run.pile(65).isBadArgument();
        run.mark(-1).isBadArgument();
        run.mark(5001).isBadArgument();
        run.preclean(-1).isBadArgument();
        run.preclean(5001).isBadArgument();
        run.marked(400).isNoSuchElement();
        run.count(-1).isBadArgument();
        run.count(6).isBadArgument();
    }

    private static void refusedInCycle() {
        Run run = Heaps.smallInCycle();
        allRefused(run);
        run.begin().isBadState();
        run.pile(3).isBadState();
        run.marked(0).isBadState();
        run.lost().isBadState();
        Heaps.isStillQuiet(run, 2);
    }

    private static void refusedInMarkedCycle() {
        Run run = Heaps.smallInCycle();
        run.mark(5000);
        run.preclean(5000);
        allRefused(run);
        run.begin().isBadState();
        run.pile(3).isBadState();
        Heaps.isStillQuiet(run, 2);
    }

    private static void refusedWhenFinished() {
        Run run = Heaps.smallFinished();
        allRefused(run);
        run.finish().isBadState();
        run.marked(1).isYes();
        run.lost().is(0);
    }

    private static void refusedWhenFull() {
        Run run = Heaps.full(1);
        allRefused(run);
        run.make(1).isBadState();
        run.finish().isBadState();
        run.lost().isBadState();
        run.begin().isDone();
        run.make(1).isBadState();
        run.finish().is(0);
        run.make(1).isBadState();
        run.marked(399).isNo();
    }
}
