import java.util.Arrays;

/**
 * A store of commits that are never changed but replaced. What comes of a replaced commit is
 * rebased at once, and every command leaves an operation with a view of its own.
 */
public final class ChangeStore {
    private static final int NONE = -1;
    private static final int DISPUTED = -2;

    private static final int REFUSED = -1;
    private static final int UNCHANGED = -2;
    private static final int FULL = -3;

    private static final int ROOT = 0;
    private static final int MAX_COMMITS = 60;
    private static final int MAX_OPERATIONS = 100;
    private static final int PATHS = 4;
    private static final int VALUES = 8;
    private static final int MARKS = 3;

    private final Commits commits;
    private final Operations operations;
    private final Draft draft;
    private final int[] currents;
    private int chosen;
    private int lineOneBegan;

    public ChangeStore() {
        commits = new Commits();
        operations = new Operations();
        draft = new Draft(commits);
        currents = new int[] {0, NONE};
        chosen = 0;
        lineOneBegan = NONE;
    }

    public int create(int parent) {
        openDraft();
        if (!draft.shows(parent)) {
            return REFUSED;
        }
        if (!hasRoomForCommit()) {
            return FULL;
        }
        int made = commits.addNewChange(parent);
        draft.show(made);
        draft.workOn(made);
        return keepDraft(chosen, NONE);
    }

    public int write(int path, int v) {
        openDraft();
        int c = draft.working;
        if (c == ROOT || !isPath(path) || !isValue(v)) {
            return REFUSED;
        }
        if (commits.isPlain(c, path, v)) {
            return UNCHANGED;
        }
        if (!hasRoomForCommit()) {
            return FULL;
        }
        int made = commits.addCopy(commits.changeOf(c), commits.parentOf(c), c);
        commits.makePlain(made, path, v);
        draft.replace(c, made);
        return keepDraft(chosen, NONE);
    }

    public int rebase(int c, int onto) {
        openDraft();
        if (!isReplaceable(c) || !draft.shows(onto) || isIn(onto, commits.withAllThatComesOf(c))) {
            return REFUSED;
        }
        if (commits.parentOf(c) == onto) {
            return UNCHANGED;
        }
        if (!hasRoomForCommit()) {
            return FULL;
        }
        draft.replace(c, commits.addMoved(c, onto));
        return keepDraft(chosen, NONE);
    }

    public int abandon(int c) {
        openDraft();
        if (!isReplaceable(c)) {
            return REFUSED;
        }
        draft.replace(c, commits.parentOf(c));
        return keepDraft(chosen, NONE);
    }

    public int squash(int c) {
        openDraft();
        if (!isReplaceable(c) || commits.parentOf(c) == ROOT) {
            return REFUSED;
        }
        if (!hasRoomForCommit()) {
            return FULL;
        }
        int p = commits.parentOf(c);
        int made = commits.addCopy(commits.changeOf(p), commits.parentOf(p), c);
        draft.replace(c, made);
        draft.replace(p, made);
        return keepDraft(chosen, NONE);
    }

    public int edit(int c) {
        openDraft();
        if (!draft.shows(c)) {
            return REFUSED;
        }
        if (draft.working == c) {
            return UNCHANGED;
        }
        draft.workOn(c);
        return keepDraft(chosen, NONE);
    }

    public int mark(int mark, int c) {
        openDraft();
        if (!isMark(mark) || (c != NONE && !draft.shows(c))) {
            return REFUSED;
        }
        if (draft.marks[mark] == c) {
            return UNCHANGED;
        }
        draft.marks[mark] = c;
        return keepDraft(chosen, NONE);
    }

    public int undo() {
        int current = currents[chosen];
        int first = operations.firstBefore(current);
        boolean joined = operations.secondBefore(current) != NONE;
        if (first == NONE || joined) {
            return REFUSED;
        }
        draft.open(operations, first);
        return keepDraft(chosen, NONE);
    }

    public int restore(int operation) {
        if (!operations.has(operation)) {
            return REFUSED;
        }
        draft.open(operations, operation);
        return keepDraft(chosen, NONE);
    }

    public boolean fork(int operation) {
        if (hasLineOne() || !operations.has(operation)) {
            return false;
        }
        lineOneBegan = operation;
        currents[1] = operation;
        chosen = 1;
        return true;
    }

    public boolean choose(int line) {
        boolean exists = line == 0 || (line == 1 && hasLineOne());
        if (exists) {
            chosen = line;
        }
        return exists;
    }

    public int join() {
        if (!hasLineOne()) {
            return REFUSED;
        }
        draft.openJoined(operations, lineOneBegan, currents[0], currents[1]);
        int made = keepDraft(0, currents[1]);
        if (made != FULL) {
            currents[1] = NONE;
            lineOneBegan = NONE;
            chosen = 0;
        }
        return made;
    }

    public int operation() {
        return currents[chosen];
    }

    public int before(int operation, int which) {
        if (which == 0) {
            return operations.firstBefore(operation);
        }
        return which == 1 ? operations.secondBefore(operation) : NONE;
    }

    public boolean visible(int operation, int c) {
        return isIn(c, operations.shownIn(operation));
    }

    public int working(int operation) {
        return operations.workingIn(operation);
    }

    public int marked(int operation, int mark) {
        return operations.markIn(operation, mark);
    }

    public int head(int operation, int i) {
        long shown = operations.shownIn(operation);
        long heads = shown & ~commits.parentsOf(shown);
        int passed = 0;
        for (int c = 0; c < MAX_COMMITS; c++) {
            if (isIn(c, heads)) {
                if (passed == i) {
                    return c;
                }
                passed++;
            }
        }
        return NONE;
    }

    public int commit(int c, int what) {
        if (what == 0) {
            return commits.parentOf(c);
        }
        return what == 1 ? commits.changeOf(c) : NONE;
    }

    public long count(int c, int path, int v) {
        return commits.countOf(c, path, v);
    }

    private boolean hasLineOne() {
        return currents[1] != NONE;
    }

    private boolean hasRoomForCommit() {
        return !commits.isFull() && !operations.isFull();
    }

    private boolean isReplaceable(int c) {
        return c != ROOT && draft.shows(c);
    }

    private void openDraft() {
        draft.open(operations, currents[chosen]);
    }

    private int keepDraft(int line, int second) {
        if (operations.isFull() || !draft.settleCommits()) {
            // Settling finds out only under way that there is no room, when commits are made already.
            commits.dropFrom(draft.commitsAtOpening);
            return FULL;
        }
        draft.settlePointers();
        int made = operations.add(draft, currents[line], second);
        currents[line] = made;
        return made;
    }

    private static boolean isPath(int path) {
        return path >= 0 && path < PATHS;
    }

    private static boolean isValue(int v) {
        return v >= 0 && v < VALUES;
    }

    private static boolean isMark(int mark) {
        return mark >= 0 && mark < MARKS;
    }

    /** Sets of commits are longs, since 60 commits leave each a bit of its own. */
    private static long bit(int c) {
        return 1L << c;
    }

    private static boolean isIn(int c, long set) {
        return c >= 0 && c < MAX_COMMITS && (set >> c & 1) != 0;
    }

    /**
     * All commits ever made, in rows that are made once so that no call makes an object. A new
     * commit at most doubles the greatest count, or the greatest difference to a parent's count,
     * so 60 commits keep every count exact in a long.
     */
    private static final class Commits {
        private final int[] parents;
        private final int[] changes;
        private final long[] counts;
        private int size;
        private int lastChange;

        Commits() {
            parents = new int[MAX_COMMITS];
            changes = new int[MAX_COMMITS];
            counts = new long[MAX_COMMITS * PATHS * VALUES];
            parents[ROOT] = NONE;
            for (int path = 0; path < PATHS; path++) {
                counts[path * VALUES] = 1;
            }
            size = 1;
            lastChange = 0;
        }

        boolean has(int c) {
            return c >= 0 && c < size;
        }

        boolean isFull() {
            return size >= MAX_COMMITS;
        }

        int parentOf(int c) {
            return has(c) ? parents[c] : NONE;
        }

        int changeOf(int c) {
            return has(c) ? changes[c] : NONE;
        }

        long countOf(int c, int path, int v) {
            return has(c) && isPath(path) && isValue(v) ? counts[start(c, path) + v] : 0;
        }

        boolean isPlain(int c, int path, int v) {
            for (int value = 0; value < VALUES; value++) {
                if (countOf(c, path, value) != (value == v ? 1 : 0)) {
                    return false;
                }
            }
            return true;
        }

        /** A parent has a lower number, so one way up through the numbers finds them all. */
        long withAllThatComesOf(int c) {
            long found = bit(c);
            for (int later = c + 1; later < size; later++) {
                if (isIn(parentOf(later), found)) {
                    found |= bit(later);
                }
            }
            return found;
        }

        long parentsOf(long set) {
            long found = 0;
            for (int c = ROOT + 1; c < size; c++) {
                if (isIn(c, set)) {
                    found |= bit(parents[c]);
                }
            }
            return found;
        }

        int latestOfChange(int change, long set) {
            for (int c = size - 1; c >= 0; c--) {
                if (changes[c] == change && isIn(c, set)) {
                    return c;
                }
            }
            return NONE;
        }

        int addNewChange(int parent) {
            if (isFull()) {
                return NONE;
            }
            lastChange++;
            return addCopy(lastChange, parent, parent);
        }

        int addCopy(int change, int parent, int contentsOf) {
            if (isFull() || !has(contentsOf)) {
                return NONE;
            }
            int made = size;
            size++;
            changes[made] = change;
            parents[made] = parent;
            System.arraycopy(counts, start(contentsOf, 0), counts, start(made, 0), PATHS * VALUES);
            return made;
        }

        int addMoved(int c, int onto) {
            int from = parentOf(c);
            if (isFull() || !has(onto) || !has(from)) {
                return NONE;
            }
            int made = addCopy(changeOf(c), onto, c);
            for (int path = 0; path < PATHS; path++) {
                addDifference(made, path, onto, from);
            }
            return made;
        }

        private void addDifference(int made, int path, int onto, int from) {
            int present = 0;
            int positive = 0;
            for (int v = 0; v < VALUES; v++) {
                int at = start(made, path) + v;
                counts[at] += counts[start(onto, path) + v] - counts[start(from, path) + v];
                present += counts[at] != 0 ? 1 : 0;
                positive = counts[at] > 0 ? v : positive;
            }
            if (present == 2) {
                makePlain(made, path, positive);
            }
        }

        void makePlain(int c, int path, int v) {
            if (!has(c) || !isPath(path) || !isValue(v)) {
                return;
            }
            for (int value = 0; value < VALUES; value++) {
                counts[start(c, path) + value] = value == v ? 1 : 0;
            }
        }

        /** Only what a refused call made is dropped, so its rows are free to be used again. */
        void dropFrom(int first) {
            size = first;
        }

        private static int start(int c, int path) {
            return (c * PATHS + path) * VALUES;
        }
    }

    /** All operations and their views, in rows that are made once. */
    private static final class Operations {
        private final int[] firsts;
        private final int[] seconds;
        private final long[] shown;
        private final int[] workings;
        private final int[] marks;
        private int size;

        Operations() {
            firsts = new int[MAX_OPERATIONS];
            seconds = new int[MAX_OPERATIONS];
            shown = new long[MAX_OPERATIONS];
            workings = new int[MAX_OPERATIONS];
            marks = new int[MAX_OPERATIONS * MARKS];
            firsts[0] = NONE;
            seconds[0] = NONE;
            shown[0] = bit(ROOT);
            workings[0] = ROOT;
            for (int mark = 0; mark < MARKS; mark++) {
                marks[mark] = NONE;
            }
            size = 1;
        }

        boolean has(int operation) {
            return operation >= 0 && operation < size;
        }

        boolean isFull() {
            return size >= MAX_OPERATIONS;
        }

        int firstBefore(int operation) {
            return has(operation) ? firsts[operation] : NONE;
        }

        int secondBefore(int operation) {
            return has(operation) ? seconds[operation] : NONE;
        }

        long shownIn(int operation) {
            return has(operation) ? shown[operation] : 0;
        }

        int workingIn(int operation) {
            return has(operation) ? workings[operation] : NONE;
        }

        int markIn(int operation, int mark) {
            return has(operation) && isMark(mark) ? marks[operation * MARKS + mark] : NONE;
        }

        int add(Draft draft, int first, int second) {
            if (isFull()) {
                return FULL;
            }
            int made = size;
            size++;
            firsts[made] = first;
            seconds[made] = second;
            shown[made] = draft.shown;
            workings[made] = draft.working;
            System.arraycopy(draft.marks, 0, marks, made * MARKS, MARKS);
            return made;
        }
    }

    /** The view that a call works on until it is kept as an operation; one is used for all calls. */
    private static final class Draft {
        private final Commits commits;
        private final int[] marks;
        private final int[] replacements;
        private long shown;
        private int working;
        private int commitsAtOpening;

        Draft(Commits commits) {
            this.commits = commits;
            marks = new int[MARKS];
            replacements = new int[MAX_COMMITS];
        }

        void open(Operations operations, int operation) {
            start();
            shown = operations.shownIn(operation);
            working = operations.workingIn(operation);
            for (int mark = 0; mark < MARKS; mark++) {
                marks[mark] = operations.markIn(operation, mark);
            }
        }

        void openJoined(Operations operations, int o, int a, int b) {
            start();
            long inA = operations.shownIn(a);
            long inB = operations.shownIn(b);
            shown = (inA & inB) | ((inA | inB) & ~operations.shownIn(o));
            int workingInA = operations.workingIn(a);
            working = workingInA == operations.workingIn(o) ? operations.workingIn(b) : workingInA;
            for (int mark = 0; mark < MARKS; mark++) {
                marks[mark] = joinedMark(operations.markIn(o, mark), operations.markIn(a, mark),
                        operations.markIn(b, mark));
            }
        }

        private void start() {
            Arrays.fill(replacements, NONE);
            commitsAtOpening = commits.size;
        }

        private static int joinedMark(int inO, int inA, int inB) {
            if (inA == inO) {
                return inB;
            }
            return inB == inO || inB == inA ? inA : DISPUTED;
        }

        boolean shows(int c) {
            return isIn(c, shown);
        }

        void show(int c) {
            shown |= bit(c);
        }

        void workOn(int c) {
            working = c;
        }

        void replace(int c, int by) {
            if (!commits.has(c) || !commits.has(by)) {
                return;
            }
            shown &= ~bit(c);
            show(by);
            replacements[c] = by;
        }

        /** Answers false if there is no room; each round makes a commit, which bounds the rounds. */
        boolean settleCommits() {
            for (int round = 0; round < MAX_COMMITS; round++) {
                int y = lowestOrphan();
                if (y == NONE) {
                    return true;
                }
                if (commits.isFull()) {
                    return false;
                }
                long notOfY = shown & ~commits.withAllThatComesOf(y);
                replace(y, commits.addMoved(y, placeOf(commits.parentOf(y), notOfY)));
            }
            return false;
        }

        private int lowestOrphan() {
            for (int c = ROOT + 1; c < commits.size; c++) {
                if (shows(c) && !shows(commits.parentOf(c))) {
                    return c;
                }
            }
            return NONE;
        }

        void settlePointers() {
            working = placeOf(working, shown);
            for (int mark = 0; mark < MARKS; mark++) {
                if (commits.has(marks[mark])) {
                    marks[mark] = placeOf(marks[mark], shown);
                }
            }
        }

        /**
         * The twins are the commits that may stand in for another of their change. The way leads
         * down through parents and then along replacements, the last of which is visible, so it
         * comes to no commit twice.
         */
        private int placeOf(int x, long twins) {
            int at = x;
            for (int step = 0; step < 2 * MAX_COMMITS && !shows(at); step++) {
                at = nextTowardsPlace(at, twins);
            }
            return shows(at) ? at : ROOT;
        }

        private int nextTowardsPlace(int x, long twins) {
            if (!commits.has(x)) {
                return ROOT;
            }
            if (replacements[x] != NONE) {
                return replacements[x];
            }
            int twin = commits.latestOfChange(commits.changeOf(x), twins);
            return twin != NONE ? twin : commits.parentOf(x);
        }
    }
}
