import java.util.ArrayList;
import java.util.Arrays;
import java.util.List;
import java.util.TreeSet;

/** What the document asks of each call, told without any marker. */
final class Model {
    private final List<int[]> fields = new ArrayList<>();
    private final int[] roots = new int[16];
    private int pile = 8;
    private boolean cycle;
    private boolean quiet;
    private boolean finishedQuiet;
    private boolean changedSince;
    private int finished;
    private int finishedQuietly;
    private TreeSet<Integer> reachedThen = new TreeSet<>();

    Model() {
        Arrays.fill(roots, PileMarker.NONE);
    }

    int objects() {
        return fields.size();
    }

    int fieldsOf(int k) {
        return has(k) ? fields.get(k).length : 0;
    }

    String answer(Call call) {
        int[] a = call.args();
        switch (call.name()) {
            case "make": return make(a[0]);
            case "set": return set(a[0], a[1], a[2]);
            case "get": return hasField(a[0], a[1]) ? "" + fields.get(a[0])[a[1]] : Call.NO_SUCH_ELEMENT;
            case "root": return root(a[0], a[1]);
            case "pile": return pile(a[0]);
            case "begin": return begin();
            case "mark":
            case "preclean": return a[0] < 0 || a[0] > 5000 ? Call.BAD_ARGUMENT : Call.DONE;
            case "finish": return finish();
            case "marked": return marked(a[0]);
            case "lost": return cycle || finished == 0 || changedSince ? Call.BAD_STATE : "0";
            default: return count(a[0]);
        }
    }

    private String make(int n) {
        if (n < 0 || n > 20) {
            return Call.BAD_ARGUMENT;
        }
        if (fields.size() == 400) {
            return Call.BAD_STATE;
        }
        int[] row = new int[n];
        Arrays.fill(row, PileMarker.NONE);
        fields.add(row);
        change();
        return "" + (fields.size() - 1);
    }

    private String set(int k, int field, int other) {
        if (!hasField(k, field) || other != PileMarker.NONE && !has(other)) {
            return Call.NO_SUCH_ELEMENT;
        }
        int before = fields.get(k)[field];
        fields.get(k)[field] = other;
        change();
        return "" + before;
    }

    private String root(int i, int k) {
        if (i < 0 || i > 15 || k != PileMarker.NONE && !has(k)) {
            return Call.NO_SUCH_ELEMENT;
        }
        int before = roots[i];
        roots[i] = k;
        change();
        return "" + before;
    }

    private String pile(int n) {
        if (n < 1 || n > 64) {
            return Call.BAD_ARGUMENT;
        }
        if (cycle) {
            return Call.BAD_STATE;
        }
        int before = pile;
        pile = n;
        return "" + before;
    }

    private String begin() {
        if (cycle) {
            return Call.BAD_STATE;
        }
        cycle = true;
        quiet = true;
        return Call.DONE;
    }

    private String finish() {
        if (!cycle) {
            return Call.BAD_STATE;
        }
        cycle = false;
        changedSince = false;
        finished++;
        finishedQuiet = quiet;
        reachedThen = reached();
        if (!quiet) {
            return "" + PileMarker.NONE;
        }
        finishedQuietly++;
        return "" + reachedThen.size();
    }

    private String marked(int k) {
        if (!has(k)) {
            return Call.NO_SUCH_ELEMENT;
        }
        if (cycle || finished == 0 || !finishedQuiet || changedSince) {
            return Call.BAD_STATE;
        }
        return "" + reachedThen.contains(k);
    }

    private String count(int what) {
        int all = 0;
        for (int[] row : fields) {
            all += row.length;
        }
        int[] answers = {fields.size(), all, reached().size(), finished, finishedQuietly, cycle ? 1 : 0};
        return what < 0 || what > 5 ? Call.BAD_ARGUMENT : "" + answers[what];
    }

    private TreeSet<Integer> reached() {
        TreeSet<Integer> found = new TreeSet<>();
        for (int k : roots) {
            if (k >= 0) {
                found.add(k);
            }
        }
        int before = -1;
        while (before != found.size()) {
            before = found.size();
            for (int k : found.toArray(new Integer[0])) {
                for (int other : fields.get(k)) {
                    if (other >= 0) {
                        found.add(other);
                    }
                }
            }
        }
        return found;
    }

    private boolean has(int k) {
        return k >= 0 && k < fields.size();
    }

    private boolean hasField(int k, int field) {
        return has(k) && field >= 0 && field < fields.get(k).length;
    }

    private void change() {
        quiet = false;
        changedSince = true;
    }
}
