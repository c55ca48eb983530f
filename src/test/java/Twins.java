import java.util.ArrayList;
import java.util.List;

/**
 * Two new objects get the same calls, but one a refused call more; whatever is asked or done
 * then must be answered alike. An object can be asked little within its 512 calls, so a new
 * pair is made for each small part of the questions.
 */
final class Twins {
    private static final int FIELDS_ASKED = 21;

    private Twins() {
    }

    static void requireNothingChanged(List<Call> before, Call refused) {
        int room = Run.MOST_CALLS - before.size() - 1;
        if (room <= 0) {
            return;
        }
        int objects = after(before).count(0);
        for (List<Call> questions : allQuestions(objects, room)) {
            compare(before, refused, questions);
        }
    }

    private static void compare(List<Call> before, Call refused, List<Call> questions) {
        PileMarker with = after(before);
        PileMarker without = after(before);
        refused.on(with);
        for (Call question : questions) {
            String got = question.on(with);
            String want = question.on(without);
            if (!got.equals(want)) {
                Check.wrong(refused + " is not to change anything, but " + question + " of " + questions
                    + " answered " + got + " after it, " + want + " without it");
                return;
            }
        }
    }

    private static PileMarker after(List<Call> calls) {
        PileMarker x = new PileMarker();
        for (Call call : calls) {
            call.on(x);
        }
        return x;
    }

    private static List<List<Call>> allQuestions(int objects, int room) {
        List<List<Call>> all = new ArrayList<>();
        addParts(all, looks(objects), room);
        List<Call> roots = new ArrayList<>();
        for (int i = 0; i < 16; i++) {
            roots.add(new Call("root", i, PileMarker.NONE));
        }
        addParts(all, roots, room);
        addStart(all, List.of(new Call("pile", 1)), room);
        addStart(all, List.of(new Call("finish"), new Call("pile", 1)), room);
        addStart(all, List.of(new Call("make", 0), new Call("make", 20), new Call("count", 1)), room);
        addStart(all, behind(List.of(new Call("finish")), looks(objects)), room);
        addStart(all, behind(List.of(new Call("begin"), new Call("finish")), looks(objects)), room);
        List<Call> steps = List.of(new Call("mark", 5000), new Call("preclean", 5000), new Call("finish"));
        addStart(all, behind(steps, looks(objects)), room);
        return all;
    }

    /** All that can be asked without changing anything. */
    private static List<Call> looks(int objects) {
        List<Call> looks = new ArrayList<>();
        for (int what = 0; what <= 5; what++) {
            looks.add(new Call("count", what));
        }
        looks.add(new Call("lost"));
        for (int k = 0; k <= objects; k++) {
            looks.add(new Call("marked", k));
        }
        for (int k = 0; k <= objects; k++) {
            for (int field = 0; field < FIELDS_ASKED; field++) {
                looks.add(new Call("get", k, field));
            }
        }
        return looks;
    }

    private static List<Call> behind(List<Call> first, List<Call> then) {
        List<Call> both = new ArrayList<>(first);
        both.addAll(then);
        return both;
    }

    private static void addParts(List<List<Call>> all, List<Call> questions, int room) {
        for (int from = 0; from < questions.size(); from += room) {
            all.add(questions.subList(from, Math.min(questions.size(), from + room)));
        }
    }

    private static void addStart(List<List<Call>> all, List<Call> questions, int room) {
        all.add(questions.subList(0, Math.min(questions.size(), room)));
    }
}
