import java.util.ArrayList;
import java.util.List;

/** Every run of a few calls out of those that matter, and all that can be asked after it. */
public final class ShortRunsTest {
    private static final int LENGTH = 5;
    private static final Call[] CALLS = {
        new Call("make", 1), new Call("make", 21), new Call("set", 0, 0, 1), new Call("set", 0, 0, PileMarker.NONE),
        new Call("root", 0, 0), new Call("root", 15, 1), new Call("begin"), new Call("mark", 17),
        new Call("preclean", 1), new Call("finish"),
    };
    private static final Call[] QUESTIONS = {
        new Call("count", 0), new Call("count", 1), new Call("count", 2), new Call("count", 3), new Call("count", 4),
        new Call("count", 5), new Call("get", 0, 0), new Call("lost"), new Call("marked", 0), new Call("marked", 1),
        new Call("marked", 2), new Call("pile", 3), new Call("finish"), new Call("pile", 4), new Call("lost"),
        new Call("marked", 0), new Call("marked", 1), new Call("root", 0, PileMarker.NONE), new Call("make", 0),
    };

    public static void main(String[] args) {
        Check.sentence("every short run, with no objects at first", () -> allRuns(List.of()));
        Check.sentence("every short run, with two objects at first", () -> allRuns(List.of(
            new Call("make", 1), new Call("make", 1), new Call("set", 0, 0, 1), new Call("root", 0, 0))));
        Check.end();
    }

    private static void allRuns(List<Call> first) {
        int runs = 1;
        for (int i = 0; i < LENGTH; i++) {
            runs *= CALLS.length;
        }
        for (int run = 0; run < runs && Check.countOfWrong() < 20; run++) {
            oneRun(first, run);
        }
    }

    /** The digits of the run's number are the calls. */
    private static void oneRun(List<Call> first, int run) {
        List<Call> calls = new ArrayList<>(first);
        int digits = run;
        for (int i = 0; i < LENGTH; i++) {
            calls.add(CALLS[digits % CALLS.length]);
            digits /= CALLS.length;
        }
        calls.addAll(List.of(QUESTIONS));
        PileMarker x = new PileMarker();
        Model model = new Model();
        for (int i = 0; i < calls.size(); i++) {
            String got = calls.get(i).on(x);
            String want = model.answer(calls.get(i));
            if (!got.equals(want)) {
                Check.due(calls.subList(0, i + 1).toString(), got, want);
                return;
            }
        }
    }
}
