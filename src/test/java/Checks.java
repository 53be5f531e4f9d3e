import java.util.function.Consumer;
import java.util.function.ToLongFunction;

/** What the tests by hand have in common: how an answer is checked, and objects to begin with. */
abstract class Checks {
    static final int NONE = -1;
    static final int DISPUTED = -2;
    static final int REFUSED = -1;
    static final int UNCHANGED = -2;
    static final int FULL = -3;

    /**
     * Numbers that nothing has: below 0, past the last that the document allows, and those whose
     * bits or whose products with the size of a row wrap round to a number that something has.
     */
    static final int[] NO_INDEX = {
        -1, -2, -3, -4, -8, -32, -60, -64, -100, Integer.MIN_VALUE, Integer.MIN_VALUE + 1,
        60, 61, 63, 64, 65, 100, 128, 256, 1 << 16, 1 << 27, (1 << 27) + 1, 1 << 28, 1 << 29, 1 << 30,
        1431655765, 1431655766, Integer.MAX_VALUE - 1, Integer.MAX_VALUE};

    private static final int SHOWN_FAULTS = 40;

    private static int wrong = 0;
    private static int sentences = 0;
    private static String where = "";

    /** Tells which words of the document the checks from here on are for. */
    static void sentence(String section, String words) {
        sentences++;
        where = section + ", \"" + words + "\"";
    }

    static void promise(int number) {
        where = "Promise " + number;
    }

    static void due(String what, long got, long want) {
        if (got != want) {
            fault(what + " answered " + got + ", due is " + want);
        }
    }

    static void due(String what, boolean got, boolean want) {
        due(what, got ? 1 : 0, want ? 1 : 0);
    }

    private static void fault(String what) {
        wrong++;
        if (wrong <= SHOWN_FAULTS) {
            System.out.println(where + ": " + what);
        }
    }

    static void dueVisible(ChangeStore x, int operation, int... commits) {
        for (int c = 0; c < 60; c++) {
            boolean want = false;
            for (int visible : commits) {
                want |= visible == c;
            }
            due("visible(" + operation + ", " + c + ")", x.visible(operation, c), want);
        }
    }

    static void dueHeads(ChangeStore x, int operation, int... heads) {
        for (int i = 0; i <= heads.length; i++) {
            due("head(" + operation + ", " + i + ")", x.head(operation, i), i < heads.length ? heads[i] : NONE);
        }
    }

    static void dueMarks(ChangeStore x, int operation, int... marks) {
        for (int mark = 0; mark < marks.length; mark++) {
            due("marked(" + operation + ", " + mark + ")", x.marked(operation, mark), marks[mark]);
        }
    }

    static void dueCounts(ChangeStore x, int c, int path, int... wanted) {
        for (int v = 0; v < 8; v++) {
            due("count(" + c + ", " + path + ", " + v + ")", x.count(c, path, v),
                    v < wanted.length ? wanted[v] : 0);
        }
    }

    static void duePlain(ChangeStore x, int c, int path, int value) {
        for (int v = 0; v < 8; v++) {
            due("count(" + c + ", " + path + ", " + v + ")", x.count(c, path, v), v == value ? 1 : 0);
        }
    }

    static void dueCommit(ChangeStore x, int c, int parent, int change) {
        due("commit(" + c + ", 0)", x.commit(c, 0), parent);
        due("commit(" + c + ", 1)", x.commit(c, 1), change);
    }

    static void dueBefore(ChangeStore x, int operation, int first) {
        dueBefore(x, operation, first, NONE);
    }

    static void dueBefore(ChangeStore x, int operation, int first, int second) {
        due("before(" + operation + ", 0)", x.before(operation, 0), first);
        due("before(" + operation + ", 1)", x.before(operation, 1), second);
    }

    /** The call has its due answer after the run, and no later question is answered otherwise for it. */
    static void dueNoTrace(String what, Consumer<ChangeStore> run, ToLongFunction<ChangeStore> call, long want) {
        ChangeStore x = after(run);
        due(what, call.applyAsLong(x), want);
        String trace = Snapshot.difference(run, call);
        if (trace != null) {
            fault(what + " left a trace: " + trace);
        }
    }

    static ChangeStore after(Consumer<ChangeStore> run) {
        ChangeStore x = new ChangeStore();
        run.accept(x);
        return x;
    }

    /** Commits 1 to size, each on the one before it, by operations of the same numbers. */
    static ChangeStore chain(int size) {
        ChangeStore x = new ChangeStore();
        for (int c = 0; c < size; c++) {
            due("create(" + c + ")", x.create(c), c + 1);
        }
        return x;
    }

    /** Goes on until the operation is made, by commands that make no commits; then commit 1 is the working one. */
    static void comeTo(ChangeStore x, int operation) {
        for (int made = x.operation() + 1; made <= operation; made++) {
            int c = (operation - made) % 2 == 0 ? 1 : 0;
            due("edit(" + c + ")", x.edit(c), made);
        }
    }

    /** A chain of 2 that has come to operation 99, the last there may be, with 1 as working commit. */
    static ChangeStore outOfOperations() {
        ChangeStore x = chain(2);
        comeTo(x, 99);
        due("working(99)", x.working(99), 1);
        return x;
    }

    /** Commit 5 is commit 4 (value 2) rebased from the root onto commit 2 (value 1), by operation 5. */
    static ChangeStore conflict() {
        ChangeStore x = new ChangeStore();
        x.create(0);
        x.write(0, 1);
        x.create(0);
        x.write(0, 2);
        due("rebase(4, 2)", x.rebase(4, 2), 5);
        return x;
    }

    /** Commits 2 and 3 are both visible with change 1, after a join by operation 4. */
    static ChangeStore twins() {
        ChangeStore x = chain(1);
        due("fork(1)", x.fork(1), true);
        due("write(0, 1)", x.write(0, 1), 2);
        due("choose(0)", x.choose(0), true);
        due("write(0, 2)", x.write(0, 2), 3);
        due("join()", x.join(), 4);
        return x;
    }

    /** To be called last: tells how it went, and ends with 1 if an answer was not as due. */
    static void end(String name) {
        String count = sentences == 0 ? "" : " in " + sentences + " sentences";
        System.out.println(name + ": " + (wrong == 0 ? "all answers are as due" : wrong + " answers are not as due") + count);
        if (wrong != 0) {
            System.exit(1);
        }
    }
}
