import java.util.ArrayList;
import java.util.List;
import java.util.NoSuchElementException;
import java.util.TreeSet;

/** Long runs of mixed calls, right and wrong ones, against a model that knows no marker. */
public final class AnyOrderTest {
    private static final int CALLS = 512;
    private static final int RUNS = 3000;
    private static final String NO_ELEMENT = NoSuchElementException.class.getName();
    private static final String BAD_ARGUMENT = IllegalArgumentException.class.getName();
    private static final String BAD_STATE = IllegalStateException.class.getName();

    private static long seed;
    private static int wrong = 0;

    public static void main(String[] args) {
        for (int run = 0; run < RUNS && wrong < 20; run++) {
            seed = run * 7919L + 17;
            oneRun(run);
        }
        System.out.println(wrong == 0 ? "all answers are as due" : wrong + " answers are not as due");
        if (wrong != 0) {
            System.exit(1);
        }
    }

    private static void oneRun(int run) {
        PileMarker x = new PileMarker();
        Model m = new Model();
        int makes = below(5) == 0 ? 400 : 1 + below(60);
        int widest = 1 + below(20);
        int used = 0;
        for (; used < makes; used++) {
            int fields = below(widest + 1);
            compare(run, used, new int[] {0, fields, 0, 0}, x, m);
        }
        for (; used < CALLS; used++) {
            compare(run, used, nextCall(m), x, m);
        }
    }

    private static int[] nextCall(Model m) {
        int objects = m.fields.size();
        int pick = below(100);
        if (pick < 40) {
            int k = object(objects);
            int fields = k >= 0 && k < objects ? m.fields.get(k).length : 3;
            return new int[] {1, k, below(30) == 0 ? below(24) - 2 : below(Math.max(1, fields)), other(objects)};
        }
        if (pick < 50) {
            return new int[] {3, below(20) == 0 ? below(20) - 2 : below(16), other(objects), 0};
        }
        if (pick < 64) {
            return new int[] {6, below(25) == 0 ? below(3) * 5001 - 1 : below(below(4) == 0 ? 5001 : 12), 0, 0};
        }
        if (pick < 72) {
            return new int[] {7, below(25) == 0 ? below(3) * 5001 - 1 : below(below(4) == 0 ? 5001 : 12), 0, 0};
        }
        if (pick < 76) {
            return new int[] {0, below(12) == 0 ? below(40) - 10 : below(21), 0, 0};
        }
        int[] kinds = {2, 4, 5, 5, 8, 8, 9, 9, 10, 10, 10, 11};
        int kind = kinds[below(kinds.length)];
        if (kind == 2) {
            return new int[] {2, object(objects), below(6), 0};
        }
        if (kind == 4) {
            return new int[] {4, below(3) == 0 ? below(70) - 2 : 1 + below(3), 0, 0};
        }
        return new int[] {kind, kind == 11 ? below(8) - 1 : object(objects), 0, 0};
    }

    private static int object(int objects) {
        return below(25) == 0 ? below(410) - 5 : below(Math.max(1, objects));
    }

    private static int other(int objects) {
        return below(4) == 0 ? PileMarker.NONE : object(objects);
    }

    private static void compare(int run, int number, int[] c, PileMarker x, Model m) {
        String want = m.answer(c);
        String got;
        try {
            got = answer(x, c);
        } catch (RuntimeException e) {
            got = e.getClass().getName();
        }
        if (!got.equals(want)) {
            wrong++;
            System.out.println("run " + run + ", call " + number + ", kind " + c[0] + "(" + c[1] + ", " + c[2] + ", "
                + c[3] + ") answered " + got + ", due is " + want);
        }
    }

    private static String answer(PileMarker x, int[] c) {
        switch (c[0]) {
            case 0: return "" + x.make(c[1]);
            case 1: return "" + x.set(c[1], c[2], c[3]);
            case 2: return "" + x.get(c[1], c[2]);
            case 3: return "" + x.root(c[1], c[2]);
            case 4: return "" + x.pile(c[1]);
            case 5: x.begin(); return "done";
            case 6: x.mark(c[1]); return "done";
            case 7: x.preclean(c[1]); return "done";
            case 8: return "" + x.finish();
            case 9: return "" + x.marked(c[1]);
            case 10: return "" + x.lost();
            default: return "" + x.count(c[1]);
        }
    }

    private static int below(int bound) {
        seed = seed * 6364136223846793005L + 1442695040888963407L;
        return (int) ((seed >>> 33) % bound);
    }

    private static final class Model {
        final List<int[]> fields = new ArrayList<>();
        final int[] roots = new int[16];
        int pile = 8;
        boolean cycle;
        boolean quiet;
        boolean finishedQuiet;
        boolean changedSince;
        int finished;
        int finishedQuietly;
        TreeSet<Integer> reachedThen = new TreeSet<>();

        Model() {
            java.util.Arrays.fill(roots, -1);
        }

        String answer(int[] c) {
            switch (c[0]) {
                case 0: return make(c[1]);
                case 1: return set(c[1], c[2], c[3]);
                case 2: return has(c[1]) && c[2] >= 0 && c[2] < fields.get(c[1]).length
                    ? "" + fields.get(c[1])[c[2]] : NO_ELEMENT;
                case 3: return root(c[1], c[2]);
                case 4: return pile(c[1]);
                case 5: return begin();
                case 6:
                case 7: return c[1] < 0 || c[1] > 5000 ? BAD_ARGUMENT : "done";
                case 8: return finish();
                case 9: return marked(c[1]);
                case 10: return cycle || finished == 0 || changedSince ? BAD_STATE : "0";
                default: return count(c[1]);
            }
        }

        private String make(int n) {
            if (n < 0 || n > 20) {
                return BAD_ARGUMENT;
            }
            if (fields.size() == 400) {
                return BAD_STATE;
            }
            int[] row = new int[n];
            java.util.Arrays.fill(row, -1);
            fields.add(row);
            change();
            return "" + (fields.size() - 1);
        }

        private String set(int k, int field, int other) {
            if (!has(k) || field < 0 || field >= fields.get(k).length || other != -1 && !has(other)) {
                return NO_ELEMENT;
            }
            int before = fields.get(k)[field];
            fields.get(k)[field] = other;
            change();
            return "" + before;
        }

        private String root(int i, int k) {
            if (i < 0 || i > 15 || k != -1 && !has(k)) {
                return NO_ELEMENT;
            }
            int before = roots[i];
            roots[i] = k;
            change();
            return "" + before;
        }

        private String pile(int n) {
            if (n < 1 || n > 64) {
                return BAD_ARGUMENT;
            }
            if (cycle) {
                return BAD_STATE;
            }
            int before = pile;
            pile = n;
            return "" + before;
        }

        private String begin() {
            if (cycle) {
                return BAD_STATE;
            }
            cycle = true;
            quiet = true;
            return "done";
        }

        private String finish() {
            if (!cycle) {
                return BAD_STATE;
            }
            cycle = false;
            changedSince = false;
            finished++;
            finishedQuiet = quiet;
            reachedThen = reached();
            if (!quiet) {
                return "-1";
            }
            finishedQuietly++;
            return "" + reachedThen.size();
        }

        private String marked(int k) {
            if (!has(k)) {
                return NO_ELEMENT;
            }
            if (cycle || finished == 0 || !finishedQuiet || changedSince) {
                return BAD_STATE;
            }
            return "" + reachedThen.contains(k);
        }

        private String count(int what) {
            int all = 0;
            for (int[] row : fields) {
                all += row.length;
            }
            int[] answers = {fields.size(), all, reached().size(), finished, finishedQuietly, cycle ? 1 : 0};
            return what < 0 || what > 5 ? BAD_ARGUMENT : "" + answers[what];
        }

        private TreeSet<Integer> reached() {
            TreeSet<Integer> found = new TreeSet<>();
            for (int k : roots) {
                if (k >= 0) {
                    found.add(k);
                }
            }
            int before = -1;
            while (before != found.size()) {
                before = found.size();
                for (int k : found.toArray(new Integer[0])) {
                    for (int other : fields.get(k)) {
                        if (other >= 0) {
                            found.add(other);
                        }
                    }
                }
            }
            return found;
        }

        private boolean has(int k) {
            return k >= 0 && k < fields.size();
        }

        private void change() {
            quiet = false;
            changedSince = true;
        }
    }
}
