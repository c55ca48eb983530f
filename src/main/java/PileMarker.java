import java.util.NoSuchElementException;

/**
 * Objects that refer to one another, and a marker that marks the reached ones step by step
 * while their fields go on changing. The marker keeps a small pile of objects to go through;
 * what the pile has no place for is found again by going over the marked objects.
 */
public final class PileMarker {
    public static final int NONE = -1;

    private static final int MOST_OBJECTS = 400;
    private static final int MOST_FIELDS = 20;
    private static final int ROOTS = 16;
    private static final int FIRST_PILE = 8;
    private static final int MOST_PILE = 64;
    private static final int MOST_STEPS = 5000;

    // Finishing goes over the objects again at most once for each object that it marks:
    // 400 times 400 steps, and some hundred steps for the roots, the pile and the changes.
    private static final int FINISHING_STEPS = 1000000;

    private final Heap heap;
    private final Marker marker;
    private final Reach reach;
    private boolean inCycle;
    // Whether a make(), set() or root() was done since the latest begin() or finish().
    private boolean touched;
    private boolean latestWasQuiet;
    private int finishedCycles;
    private int quietCycles;

    public PileMarker() {
        heap = new Heap();
        marker = new Marker(heap);
        reach = new Reach(heap);
        inCycle = false;
        touched = false;
        latestWasQuiet = false;
        finishedCycles = 0;
        quietCycles = 0;
    }

    public int make(int fields) throws IllegalArgumentException, IllegalStateException {
        if (fields < 0 || fields > MOST_FIELDS) {
            throw new IllegalArgumentException("fields is not 0 .. 20");
        }
        if (heap.isFull()) {
            throw new IllegalStateException("there are 400 objects");
        }
        touched = true;
        return heap.addObject(fields);
    }

    public int set(int k, int field, int other) throws NoSuchElementException {
        if (!heap.hasField(k, field)) {
            throw new NoSuchElementException("no such object or field");
        }
        if (!heap.hasOrIsNone(other)) {
            throw new NoSuchElementException("no such other object");
        }
        touched = true;
        if (inCycle) {
            marker.noteChange(k);
        }
        return heap.putField(k, field, other);
    }

    public int get(int k, int field) throws NoSuchElementException {
        if (!heap.hasField(k, field)) {
            throw new NoSuchElementException("no such object or field");
        }
        return heap.fieldOf(k, field);
    }

    public int root(int root, int k) throws NoSuchElementException {
        if (!heap.hasRoot(root)) {
            throw new NoSuchElementException("no such root");
        }
        if (!heap.hasOrIsNone(k)) {
            throw new NoSuchElementException("no such object");
        }
        touched = true;
        return heap.putRoot(root, k);
    }

    public int pile(int n) throws IllegalArgumentException, IllegalStateException {
        if (n < 1 || n > MOST_PILE) {
            throw new IllegalArgumentException("n is not 1 .. 64");
        }
        if (inCycle) {
            throw new IllegalStateException("there is a cycle");
        }
        return marker.changeLimit(n);
    }

    public void begin() throws IllegalStateException {
        if (inCycle) {
            throw new IllegalStateException("there is a cycle");
        }
        marker.forgetAll();
        inCycle = true;
        touched = false;
    }

    public void mark(int n) throws IllegalArgumentException {
        if (!isStepCount(n)) {
            throw new IllegalArgumentException("n is not 0 .. 5000");
        }
        if (inCycle) {
            marker.doMarkSteps(n);
        }
    }

    public void preclean(int n) throws IllegalArgumentException {
        if (!isStepCount(n)) {
            throw new IllegalArgumentException("n is not 0 .. 5000");
        }
        if (inCycle) {
            marker.doCleanSteps(n);
        }
    }

    public int finish() throws IllegalStateException {
        if (!inCycle) {
            throw new IllegalStateException("there is no cycle");
        }
        marker.markAllThatIsLeft();
        inCycle = false;
        finishedCycles++;
        latestWasQuiet = !touched;
        touched = false;
        if (!latestWasQuiet) {
            return NONE;
        }
        quietCycles++;
        return marker.countOfMarks();
    }

    public boolean marked(int k) throws NoSuchElementException, IllegalStateException {
        if (!heap.has(k)) {
            throw new NoSuchElementException("no such object");
        }
        if (!latestCycleStillHolds() || !latestWasQuiet) {
            throw new IllegalStateException("no quiet cycle is the latest, or it no longer holds");
        }
        return marker.hasMark(k);
    }

    public int lost() throws IllegalStateException {
        if (!latestCycleStillHolds()) {
            throw new IllegalStateException("no cycle was finished, or it no longer holds");
        }
        // Nothing was changed since the cycle was finished, so what is reached now was reached then.
        reach.search();
        int unmarked = 0;
        for (int k = 0; k < MOST_OBJECTS; k++) {
            if (reach.hasFound(k) && !marker.hasMark(k)) {
                unmarked++;
            }
        }
        return unmarked;
    }

    public int count(int what) throws IllegalArgumentException {
        switch (what) {
            case 0:
                return heap.countOfObjects();
            case 1:
                return heap.countOfFields();
            case 2:
                reach.search();
                return reach.countOfFound();
            case 3:
                return finishedCycles;
            case 4:
                return quietCycles;
            case 5:
                return inCycle ? 1 : 0;
            default:
                throw new IllegalArgumentException("what is not 0 .. 5");
        }
    }

    private boolean latestCycleStillHolds() {
        return !inCycle && finishedCycles > 0 && !touched;
    }

    private static boolean isStepCount(int n) {
        return n >= 0 && n <= MOST_STEPS;
    }

    /** The objects with their fields, and the roots. */
    private static final class Heap {
        private final int[] fieldCounts;
        // Object k has its fields from k * MOST_FIELDS on: one row, so that make() makes none.
        private final int[] fields;
        private final int[] roots;
        private int objects;
        private int fieldsOfAll;

        Heap() {
            fieldCounts = new int[MOST_OBJECTS];
            fields = new int[MOST_OBJECTS * MOST_FIELDS];
            roots = new int[ROOTS];
            objects = 0;
            fieldsOfAll = 0;
            for (int i = 0; i < ROOTS; i++) {
                roots[i] = NONE;
            }
        }

        boolean isFull() {
            return objects >= MOST_OBJECTS;
        }

        boolean has(int k) {
            return k >= 0 && k < objects;
        }

        boolean hasOrIsNone(int k) {
            return k == NONE || has(k);
        }

        boolean hasField(int k, int field) {
            return has(k) && field >= 0 && field < fieldCounts[k];
        }

        boolean hasRoot(int i) {
            return i >= 0 && i < ROOTS;
        }

        int addObject(int fieldCount) {
            if (isFull() || fieldCount < 0 || fieldCount > MOST_FIELDS) {
                return NONE;
            }
            int k = objects;
            fieldCounts[k] = fieldCount;
            for (int field = 0; field < fieldCount; field++) {
                fields[k * MOST_FIELDS + field] = NONE;
            }
            objects++;
            fieldsOfAll += fieldCount;
            return k;
        }

        int fieldOf(int k, int field) {
            return hasField(k, field) ? fields[k * MOST_FIELDS + field] : NONE;
        }

        int putField(int k, int field, int other) {
            int before = fieldOf(k, field);
            if (hasField(k, field)) {
                fields[k * MOST_FIELDS + field] = other;
            }
            return before;
        }

        int rootAt(int i) {
            return hasRoot(i) ? roots[i] : NONE;
        }

        int putRoot(int i, int k) {
            int before = rootAt(i);
            if (hasRoot(i)) {
                roots[i] = k;
            }
            return before;
        }

        int fieldCountOf(int k) {
            return has(k) ? fieldCounts[k] : 0;
        }

        int countOfObjects() {
            return objects;
        }

        int countOfFields() {
            return fieldsOfAll;
        }
    }

    /**
     * Marks what is reached. Between two steps each marked object is on the pile, or is numbered
     * nextForgotten or higher and waits to be found again, or is noted as changed, or has been
     * gone through: then all that its fields have is marked. So nothing reached stays unmarked
     * when the pile is empty and nothing forgotten or changed waits.
     */
    private static final class Marker {
        private final Heap heap;
        private final boolean[] marks;
        private final boolean[] changed;
        private final int[] kept;
        private int limit;
        private int keptCount;
        private int nextRoot;
        // No object below this number was marked and found no place on the pile.
        private int nextForgotten;
        // No object below this number is noted as changed.
        private int nextChanged;

        Marker(Heap heapToMark) {
            heap = heapToMark;
            marks = new boolean[MOST_OBJECTS];
            changed = new boolean[MOST_OBJECTS];
            kept = new int[MOST_PILE];
            limit = FIRST_PILE;
            keptCount = 0;
            nextRoot = 0;
            nextForgotten = MOST_OBJECTS;
            nextChanged = MOST_OBJECTS;
        }

        int changeLimit(int n) {
            int before = limit;
            limit = n;
            return before;
        }

        void forgetAll() {
            for (int k = 0; k < MOST_OBJECTS; k++) {
                marks[k] = false;
                changed[k] = false;
            }
            keptCount = 0;
            nextRoot = 0;
            nextForgotten = MOST_OBJECTS;
            nextChanged = MOST_OBJECTS;
        }

        void noteChange(int k) {
            if (heap.has(k)) {
                changed[k] = true;
                if (k < nextChanged) {
                    nextChanged = k;
                }
            }
        }

        void doMarkSteps(int n) {
            boolean more = true;
            for (int step = 0; step < n && more; step++) {
                more = markStep();
            }
        }

        void doCleanSteps(int n) {
            boolean more = true;
            for (int step = 0; step < n && more; step++) {
                more = cleanStep();
            }
        }

        void markAllThatIsLeft() {
            // Changes of roots are not noted, so all roots are looked at once more.
            nextRoot = 0;
            boolean more = true;
            for (int step = 0; step < FINISHING_STEPS && more; step++) {
                more = markStep() || cleanStep();
            }
        }

        boolean hasMark(int k) {
            return heap.has(k) && marks[k];
        }

        int countOfMarks() {
            int sum = 0;
            for (int k = 0; k < MOST_OBJECTS; k++) {
                if (marks[k]) {
                    sum++;
                }
            }
            return sum;
        }

        /** Whether there was anything to do. */
        private boolean markStep() {
            if (nextRoot < ROOTS) {
                putMark(heap.rootAt(nextRoot));
                nextRoot++;
                return true;
            }
            if (keptCount > 0 && keptCount <= MOST_PILE) {
                keptCount--;
                markFieldsOf(kept[keptCount]);
                return true;
            }
            if (nextForgotten < heap.countOfObjects()) {
                int k = nextForgotten;
                // Moved on first: going through k may forget one with a lower number.
                nextForgotten++;
                if (hasMark(k)) {
                    markFieldsOf(k);
                }
                return true;
            }
            return false;
        }

        /** Whether there was anything to do. */
        private boolean cleanStep() {
            if (nextChanged >= heap.countOfObjects()) {
                return false;
            }
            int k = nextChanged;
            nextChanged++;
            if (heap.has(k) && changed[k]) {
                changed[k] = false;
                // One without a mark is gone through when it gets its mark, if ever.
                if (marks[k]) {
                    markFieldsOf(k);
                }
            }
            return true;
        }

        private void markFieldsOf(int k) {
            int fieldCount = heap.fieldCountOf(k);
            for (int field = 0; field < fieldCount; field++) {
                putMark(heap.fieldOf(k, field));
            }
        }

        private void putMark(int k) {
            if (heap.has(k) && !marks[k]) {
                marks[k] = true;
                keepOrForget(k);
            }
        }

        private void keepOrForget(int k) {
            if (keptCount >= 0 && keptCount < limit && keptCount < MOST_PILE) {
                kept[keptCount] = k;
                keptCount++;
            } else if (k < nextForgotten) {
                nextForgotten = k;
            }
        }
    }

    /** Finds what is reached now, apart from the marker, so that lost() can judge the marker. */
    private static final class Reach {
        private final Heap heap;
        private final boolean[] found;
        private final int[] order;
        private int foundCount;

        Reach(Heap heapToSearch) {
            heap = heapToSearch;
            found = new boolean[MOST_OBJECTS];
            order = new int[MOST_OBJECTS];
            foundCount = 0;
        }

        void search() {
            for (int k = 0; k < MOST_OBJECTS; k++) {
                found[k] = false;
            }
            foundCount = 0;
            for (int i = 0; i < ROOTS; i++) {
                enter(heap.rootAt(i));
            }
            for (int i = 0; i < MOST_OBJECTS && i < foundCount; i++) {
                enterFieldsOf(order[i]);
            }
        }

        boolean hasFound(int k) {
            return heap.has(k) && found[k];
        }

        int countOfFound() {
            return foundCount;
        }

        private void enterFieldsOf(int k) {
            int fieldCount = heap.fieldCountOf(k);
            for (int field = 0; field < fieldCount; field++) {
                enter(heap.fieldOf(k, field));
            }
        }

        private void enter(int k) {
            if (heap.has(k) && !found[k] && foundCount >= 0 && foundCount < MOST_OBJECTS) {
                found[k] = true;
                order[foundCount] = k;
                foundCount++;
            }
        }
    }
}
