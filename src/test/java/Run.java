import java.util.ArrayList;
import java.util.List;

/**
 * A run of calls on a new object. A call is followed by the answer that is due; one without is
 * only required not to be refused. A run never goes past the calls that the document speaks of.
 */
final class Run {
    static final int MOST_CALLS = 512;

    private final PileMarker x = new PileMarker();
    private final List<Call> calls = new ArrayList<>();
    private String answer = "";
    private boolean judged = true;

    Run make(int fields) {
        return call("make", fields);
    }

    Run set(int k, int field, int other) {
        return call("set", k, field, other);
    }

    Run get(int k, int field) {
        return call("get", k, field);
    }

    Run root(int root, int k) {
        return call("root", root, k);
    }

    Run pile(int n) {
        return call("pile", n);
    }

    Run begin() {
        return call("begin");
    }

    Run mark(int n) {
        return call("mark", n);
    }

    Run preclean(int n) {
        return call("preclean", n);
    }

    Run finish() {
        return call("finish");
    }

    Run marked(int k) {
        return call("marked", k);
    }

    Run lost() {
        return call("lost");
    }

    Run count(int what) {
        return call("count", what);
    }

    Run call(String name, int... args) {
        requireNotRefused();
        Call call = new Call(name, args);
        calls.add(call);
        if (calls.size() > MOST_CALLS) {
            Check.wrong("the test itself: more than " + MOST_CALLS + " calls");
        }
        answer = call.on(x);
        judged = false;
        return this;
    }

    void is(int want) {
        judge(Integer.toString(want));
    }

    void isNothing() {
        judge(Integer.toString(PileMarker.NONE));
    }

    void isDone() {
        judge(Call.DONE);
    }

    void isYes() {
        judge("true");
    }

    void isNo() {
        judge("false");
    }

    void isNoSuchElement() {
        isRefused(Call.NO_SUCH_ELEMENT);
    }

    void isBadArgument() {
        isRefused(Call.BAD_ARGUMENT);
    }

    void isBadState() {
        isRefused(Call.BAD_STATE);
    }

    void isRefused(String want) {
        judge(want);
        List<Call> before = calls.subList(0, calls.size() - 1);
        Twins.requireNothingChanged(before, latest());
    }

    int callsLeft() {
        return MOST_CALLS - calls.size();
    }

    private Call latest() {
        return calls.get(calls.size() - 1);
    }

    private void judge(String want) {
        judged = true;
        Check.due("call " + calls.size() + ", " + latest() + told(), answer, want);
    }

    private void requireNotRefused() {
        if (!judged && answer.startsWith("throws.")) {
            Check.wrong("call " + calls.size() + ", " + latest() + told() + " answered " + answer);
        }
    }

    private String told() {
        int from = Math.max(0, calls.size() - 9);
        return " (behind " + (from > 0 ? from + " calls and " : "") + calls.subList(from, calls.size() - 1) + ")";
    }
}
