import java.util.function.Consumer;
import java.util.function.ToLongFunction;

/**
 * Each sentence of a promise that names an edge, by a test of its own: too small, too large, empty,
 * full, a number that wraps round, a refused call. A refused call must also leave no trace.
 */
public final class EdgesTest extends Checks {
    /** Visible are 2 (change 1), 4 on it (change 2) and 5 (change 3); 1 and 3 were replaced; 4 is working. */
    private static final Consumer<ChangeStore> LITTLE = x -> {
        x.create(0);
        x.write(0, 1);
        x.create(2);
        x.write(1, 2);
        x.create(0);
        x.mark(0, 2);
        x.edit(4);
    };

    /** Line 1, chosen, began at operation 4 and has commit 6 on 4; line 0 is at operation 7. */
    private static final Consumer<ChangeStore> APART = x -> {
        LITTLE.accept(x);
        x.fork(4);
        x.create(4);
    };

    private static final Consumer<ChangeStore> APART_ON_LINE_0 = x -> {
        APART.accept(x);
        x.choose(0);
    };

    /** Mark 0 is DISPUTED in operation 4. */
    private static final Consumer<ChangeStore> DISPUTE = x -> {
        x.create(0);
        x.fork(1);
        x.mark(0, 0);
        x.choose(0);
        x.mark(0, 1);
        x.join();
    };

    private static final Consumer<ChangeStore> NEW = x -> { };

    /** Commits 1 to 59, each on the one before it; 59 is the working commit. */
    private static final Consumer<ChangeStore> NO_COMMIT_LEFT = x -> {
        for (int c = 0; c < 59; c++) {
            x.create(c);
        }
    };

    /** Commits 1 to 3, each on the one before it, and operation 99, with 1 as working commit. */
    private static final Consumer<ChangeStore> NO_OPERATION_LEFT = x -> {
        for (int c = 0; c < 3; c++) {
            x.create(c);
        }
        for (int operation = 4; operation <= 99; operation++) {
            x.edit(operation % 2);
        }
    };

    private static void noRoom(String command) {
        sentence("Terms, for " + command, "FULL (-3) if there would be more than 60 commits or more than 100 operations");
    }

    private static long number(boolean answer) {
        return answer ? 1 : 0;
    }

    /** No such commit is in the view of LITTLE: not made, or replaced. */
    private static void dueForNoVisible(String call, int want, CallOnOne command) {
        for (int c : NO_INDEX) {
            dueNoTrace(call + " of " + c, LITTLE, x -> command.on(x, c), want);
        }
        dueNoTrace(call + " of 6, not yet made", LITTLE, x -> command.on(x, 6), want);
        dueNoTrace(call + " of 1, replaced", LITTLE, x -> command.on(x, 1), want);
        dueNoTrace(call + " of 3, replaced", LITTLE, x -> command.on(x, 3), want);
        dueNoTrace(call + " of 5, of line 0", APART, x -> command.on(x, 5), want);
        dueNoTrace(call + " of 6, of line 1", APART_ON_LINE_0, x -> command.on(x, 6), want);
        dueNoTrace(call + " of 1 in a new object", NEW, x -> command.on(x, 1), want);
        dueNoTrace(call + " of 60, no commit left", NO_COMMIT_LEFT, x -> command.on(x, 60), want);
        dueNoTrace(call + " of 4, no operation left", NO_OPERATION_LEFT, x -> command.on(x, 4), want);
    }

    private interface CallOnOne {
        long on(ChangeStore x, int c);
    }

    private static void newObject() {
        sentence("Promise 1", "As said: the root, operation 0, line 0");
        ChangeStore x = new ChangeStore();
        dueCommit(x, 0, NONE, 0);
        dueCommit(x, 1, NONE, NONE);
        due("operation()", x.operation(), 0);
        due("working(1)", x.working(1), NONE);
        due("choose(1)", x.choose(1), false);
        due("create(0) of a new object", x.create(0), 1);
        ChangeStore other = new ChangeStore();
        due("operation() of another new object", other.operation(), 0);
        dueCommit(other, 1, NONE, NONE);
        due("visible(0, 1)", other.visible(0, 1), false);
    }

    private static void createOnAnyVisible() {
        sentence("Promise 2", "a new commit with a new change, with this parent and the parent's contents, becomes visible and the working commit");
        ChangeStore x = after(LITTLE);
        due("create(0), the lowest", x.create(0), 8);
        dueCommit(x, 6, 0, 4);
        duePlain(x, 6, 0, 0);
        due("create(6), the highest", x.create(6), 9);
        dueCommit(x, 7, 6, 5);
        due("create(2), which has a child", x.create(2), 10);
        dueCommit(x, 8, 2, 6);
        duePlain(x, 8, 0, 1);
        dueVisible(x, 10, 0, 2, 4, 5, 6, 7, 8);
        due("working(10)", x.working(10), 8);
        x = conflict();
        due("create(5), with a conflict", x.create(5), 6);
        dueCounts(x, 6, 0, -1, 1, 1);
    }

    private static void createRefused() {
        sentence("Promise 2", "REFUSED if parent is not visible");
        dueForNoVisible("create", REFUSED, (x, c) -> x.create(c));
    }

    private static void createFull() {
        noRoom("create");
        dueNoTrace("create(59)", NO_COMMIT_LEFT, x -> x.create(59), FULL);
        dueNoTrace("create(0)", NO_COMMIT_LEFT, x -> x.create(0), FULL);
        dueNoTrace("create(0)", NO_OPERATION_LEFT, x -> x.create(0), FULL);
    }

    private static void writeAtEdges() {
        sentence("Promise 3", "but plain with v for the path");
        int[][] corners = {{0, 7}, {3, 7}, {3, 0}, {0, 0}, {0, 1}, {3, 6}};
        ChangeStore x = chain(1);
        int made = 1;
        for (int[] corner : corners) {
            made++;
            due("write(" + corner[0] + ", " + corner[1] + ")", x.write(corner[0], corner[1]), made);
            duePlain(x, made, corner[0], corner[1]);
            duePlain(x, made, 1, 0);
            duePlain(x, made, 2, 0);
            dueCommit(x, made, 0, 1);
        }
        duePlain(x, 3, 0, 7);
        duePlain(x, 7, 0, 1);
    }

    private static void writeOnRoot() {
        sentence("Promise 3", "REFUSED if it is the root");
        dueNoTrace("write(0, 1)", NEW, x -> x.write(0, 1), REFUSED);
        dueNoTrace("write(0, 0), as it is", NEW, x -> x.write(0, 0), REFUSED);
        dueNoTrace("write(4, 8)", NEW, x -> x.write(4, 8), REFUSED);
        Consumer<ChangeStore> backOnRoot = x -> {
            LITTLE.accept(x);
            x.edit(0);
        };
        dueNoTrace("write(3, 7) after edit(0)", backOnRoot, x -> x.write(3, 7), REFUSED);
        Consumer<ChangeStore> abandoned = x -> {
            x.create(0);
            x.abandon(1);
        };
        dueNoTrace("write(3, 7) after abandon(1)", abandoned, x -> x.write(3, 7), REFUSED);
    }

    private static void writeNoPath() {
        sentence("Promise 3", "or path is not 0 .. 3");
        for (int path : NO_INDEX) {
            dueNoTrace("write(" + path + ", 1)", LITTLE, x -> x.write(path, 1), REFUSED);
        }
        dueNoTrace("write(4, 1)", LITTLE, x -> x.write(4, 1), REFUSED);
        dueNoTrace("write(4, 0)", LITTLE, x -> x.write(4, 0), REFUSED);
        dueNoTrace("write(4, 1), no commit left", NO_COMMIT_LEFT, x -> x.write(4, 1), REFUSED);
        dueNoTrace("write(-1, 1), no operation left", NO_OPERATION_LEFT, x -> x.write(-1, 1), REFUSED);
    }

    private static void writeNoValue() {
        sentence("Promise 3", "or v not 0 .. 7");
        for (int v : NO_INDEX) {
            dueNoTrace("write(0, " + v + ")", LITTLE, x -> x.write(0, v), REFUSED);
        }
        dueNoTrace("write(0, 8)", LITTLE, x -> x.write(0, 8), REFUSED);
        dueNoTrace("write(3, 8)", LITTLE, x -> x.write(3, 8), REFUSED);
        dueNoTrace("write(0, 8), no commit left", NO_COMMIT_LEFT, x -> x.write(0, 8), REFUSED);
        dueNoTrace("write(0, -1), no operation left", NO_OPERATION_LEFT, x -> x.write(0, -1), REFUSED);
    }

    private static void writeUnchanged() {
        sentence("Promise 3", "UNCHANGED if its content there is plain with v");
        dueNoTrace("write(0, 1), the parent's", LITTLE, x -> x.write(0, 1), UNCHANGED);
        dueNoTrace("write(1, 2), its own", LITTLE, x -> x.write(1, 2), UNCHANGED);
        dueNoTrace("write(3, 0), the root's", LITTLE, x -> x.write(3, 0), UNCHANGED);
        dueNoTrace("write(0, 0)", NO_COMMIT_LEFT, x -> x.write(0, 0), UNCHANGED);
        dueNoTrace("write(0, 0)", NO_OPERATION_LEFT, x -> x.write(0, 0), UNCHANGED);
        ChangeStore x = after(LITTLE);
        due("write(0, 2), plain on another path", x.write(0, 2), 8);
        due("write(0, 1), plain in the parent", x.write(0, 1), 9);
    }

    private static void writeFull() {
        noRoom("write");
        dueNoTrace("write(0, 1)", NO_COMMIT_LEFT, x -> x.write(0, 1), FULL);
        dueNoTrace("write(0, 1)", NO_OPERATION_LEFT, x -> x.write(0, 1), FULL);
    }

    private static void rebaseNotVisible() {
        sentence("Promise 4", "REFUSED if c is the root or not visible");
        dueNoTrace("rebase(0, 5)", LITTLE, x -> x.rebase(0, 5), REFUSED);
        dueNoTrace("rebase(0, 0)", LITTLE, x -> x.rebase(0, 0), REFUSED);
        dueNoTrace("rebase(0, -1)", LITTLE, x -> x.rebase(0, -1), REFUSED);
        dueNoTrace("rebase(0, 1)", NO_COMMIT_LEFT, x -> x.rebase(0, 1), REFUSED);
        dueForNoVisible("rebase onto 0", REFUSED, (x, c) -> x.rebase(c, 0));
        dueForNoVisible("rebase onto 2", REFUSED, (x, c) -> x.rebase(c, 2));
    }

    private static void rebaseOntoNotVisible() {
        sentence("Promise 4", "or onto is not visible");
        dueForNoVisible("rebase(4, c)", REFUSED, (x, c) -> x.rebase(4, c));
        dueForNoVisible("rebase(2, c)", REFUSED, (x, c) -> x.rebase(2, c));
    }

    private static void rebaseOntoItself() {
        sentence("Promise 4", "or is c");
        dueNoTrace("rebase(4, 4)", LITTLE, x -> x.rebase(4, 4), REFUSED);
        dueNoTrace("rebase(2, 2)", LITTLE, x -> x.rebase(2, 2), REFUSED);
        dueNoTrace("rebase(59, 59)", NO_COMMIT_LEFT, x -> x.rebase(59, 59), REFUSED);
        dueNoTrace("rebase(1, 1)", NO_OPERATION_LEFT, x -> x.rebase(1, 1), REFUSED);
    }

    private static void rebaseOntoItsOwn() {
        sentence("Promise 4", "or comes of c");
        dueNoTrace("rebase(2, 4)", LITTLE, x -> x.rebase(2, 4), REFUSED);
        dueNoTrace("rebase(1, 2)", NO_COMMIT_LEFT, x -> x.rebase(1, 2), REFUSED);
        dueNoTrace("rebase(1, 59)", NO_COMMIT_LEFT, x -> x.rebase(1, 59), REFUSED);
        dueNoTrace("rebase(1, 3)", NO_OPERATION_LEFT, x -> x.rebase(1, 3), REFUSED);
        ChangeStore x = after(LITTLE);
        due("rebase(2, 5), which does not come of it", x.rebase(2, 5), 8);
        dueCommit(x, 6, 5, 1);
        dueCommit(x, 7, 6, 2);
    }

    private static void rebaseUnchanged() {
        sentence("Promise 4", "UNCHANGED if onto is the parent of c");
        dueNoTrace("rebase(4, 2)", LITTLE, x -> x.rebase(4, 2), UNCHANGED);
        dueNoTrace("rebase(2, 0)", LITTLE, x -> x.rebase(2, 0), UNCHANGED);
        dueNoTrace("rebase(59, 58)", NO_COMMIT_LEFT, x -> x.rebase(59, 58), UNCHANGED);
        dueNoTrace("rebase(1, 0)", NO_OPERATION_LEFT, x -> x.rebase(1, 0), UNCHANGED);
        ChangeStore x = after(LITTLE);
        due("rebase(4, 0), its parent's parent", x.rebase(4, 0), 8);
        dueCommit(x, 6, 0, 2);
        duePlain(x, 6, 0, 0);
        duePlain(x, 6, 1, 2);
    }

    private static void rebaseFull() {
        noRoom("rebase");
        dueNoTrace("rebase(59, 0)", NO_COMMIT_LEFT, x -> x.rebase(59, 0), FULL);
        dueNoTrace("rebase(2, 0)", NO_COMMIT_LEFT, x -> x.rebase(2, 0), FULL);
        dueNoTrace("rebase(2, 0)", NO_OPERATION_LEFT, x -> x.rebase(2, 0), FULL);
    }

    private static void abandonRefused() {
        sentence("Promise 5", "REFUSED if c is the root or not visible");
        dueNoTrace("abandon(0)", LITTLE, x -> x.abandon(0), REFUSED);
        dueNoTrace("abandon(0) of a new object", NEW, x -> x.abandon(0), REFUSED);
        dueNoTrace("abandon(0)", NO_COMMIT_LEFT, x -> x.abandon(0), REFUSED);
        dueNoTrace("abandon(0)", NO_OPERATION_LEFT, x -> x.abandon(0), REFUSED);
        dueForNoVisible("abandon", REFUSED, (x, c) -> x.abandon(c));
    }

    private static void abandonFull() {
        noRoom("abandon");
        dueNoTrace("abandon(58)", NO_COMMIT_LEFT, x -> x.abandon(58), FULL);
        dueNoTrace("abandon(1)", NO_COMMIT_LEFT, x -> x.abandon(1), FULL);
        dueNoTrace("abandon(3)", NO_OPERATION_LEFT, x -> x.abandon(3), FULL);
        dueNoTrace("abandon(1)", NO_OPERATION_LEFT, x -> x.abandon(1), FULL);
        ChangeStore x = after(NO_COMMIT_LEFT);
        due("abandon(59), which makes none", x.abandon(59), 60);
        due("abandon(58), which makes none now", x.abandon(58), 61);
        due("working(61)", x.working(61), 57);
    }

    private static void squashNotVisible() {
        sentence("Promise 6", "REFUSED if c is the root or not visible");
        dueNoTrace("squash(0)", LITTLE, x -> x.squash(0), REFUSED);
        dueNoTrace("squash(0) of a new object", NEW, x -> x.squash(0), REFUSED);
        dueForNoVisible("squash", REFUSED, (x, c) -> x.squash(c));
    }

    private static void squashOnRoot() {
        sentence("Promise 6", "or p is the root");
        dueNoTrace("squash(2), with a child", LITTLE, x -> x.squash(2), REFUSED);
        dueNoTrace("squash(5)", LITTLE, x -> x.squash(5), REFUSED);
        dueNoTrace("squash(1)", NO_COMMIT_LEFT, x -> x.squash(1), REFUSED);
        dueNoTrace("squash(1)", NO_OPERATION_LEFT, x -> x.squash(1), REFUSED);
        ChangeStore x = after(LITTLE);
        due("squash(4), whose p is on the root", x.squash(4), 8);
        dueCommit(x, 6, 0, 1);
        duePlain(x, 6, 1, 2);
        dueMarks(x, 8, 6, NONE, NONE);
        due("working(8)", x.working(8), 6);
        dueVisible(x, 8, 0, 5, 6);
    }

    private static void squashFull() {
        noRoom("squash");
        dueNoTrace("squash(59)", NO_COMMIT_LEFT, x -> x.squash(59), FULL);
        dueNoTrace("squash(2)", NO_COMMIT_LEFT, x -> x.squash(2), FULL);
        dueNoTrace("squash(2)", NO_OPERATION_LEFT, x -> x.squash(2), FULL);
    }

    private static void editRefused() {
        sentence("Promise 7", "REFUSED if c is not visible");
        dueForNoVisible("edit", REFUSED, (x, c) -> x.edit(c));
    }

    private static void editUnchanged() {
        sentence("Promise 7", "UNCHANGED if it is the working commit");
        dueNoTrace("edit(4)", LITTLE, x -> x.edit(4), UNCHANGED);
        dueNoTrace("edit(0) of a new object", NEW, x -> x.edit(0), UNCHANGED);
        dueNoTrace("edit(59)", NO_COMMIT_LEFT, x -> x.edit(59), UNCHANGED);
        dueNoTrace("edit(1)", NO_OPERATION_LEFT, x -> x.edit(1), UNCHANGED);
        ChangeStore x = after(LITTLE);
        due("edit(0), the root", x.edit(0), 8);
        due("edit(5), the highest", x.edit(5), 9);
        due("working(9)", x.working(9), 5);
    }

    private static void editFull() {
        noRoom("edit");
        dueNoTrace("edit(2)", NO_OPERATION_LEFT, x -> x.edit(2), FULL);
        ChangeStore x = after(NO_COMMIT_LEFT);
        due("edit(0), no commit left", x.edit(0), 60);
    }

    private static void markNoMark() {
        sentence("Promise 8", "REFUSED if there is no such mark");
        for (int mark : NO_INDEX) {
            dueNoTrace("mark(" + mark + ", 2)", LITTLE, x -> x.mark(mark, 2), REFUSED);
            dueNoTrace("mark(" + mark + ", -1)", LITTLE, x -> x.mark(mark, NONE), REFUSED);
        }
        dueNoTrace("mark(3, 2)", LITTLE, x -> x.mark(3, 2), REFUSED);
        dueNoTrace("mark(3, -1)", LITTLE, x -> x.mark(3, NONE), REFUSED);
        dueNoTrace("mark(3, -1)", NO_OPERATION_LEFT, x -> x.mark(3, NONE), REFUSED);
        ChangeStore x = after(LITTLE);
        due("mark(2, 0), the last mark and the root", x.mark(2, 0), 8);
        dueMarks(x, 8, 2, NONE, 0);
    }

    private static void markNotVisible() {
        sentence("Promise 8", "or c is neither -1 nor visible");
        dueForNoVisible("mark 1", REFUSED, (x, c) -> x.mark(1, c == NONE ? -5 : c));
        dueNoTrace("mark(0, -2), where it is a commit", LITTLE, x -> x.mark(0, DISPUTED), REFUSED);
        dueNoTrace("mark(1, -2), where it is NONE", LITTLE, x -> x.mark(1, DISPUTED), REFUSED);
        dueNoTrace("mark(0, -2), where it is DISPUTED", DISPUTE, x -> x.mark(0, DISPUTED), REFUSED);
        ChangeStore x = after(DISPUTE);
        due("mark(0, -1), where it is DISPUTED", x.mark(0, NONE), 5);
        dueMarks(x, 5, NONE, NONE, NONE);
        x = after(DISPUTE);
        due("mark(0, 1), where it is DISPUTED", x.mark(0, 1), 5);
        dueMarks(x, 5, 1, NONE, NONE);
    }

    private static void markUnchanged() {
        sentence("Promise 8", "UNCHANGED if the mark is that already");
        dueNoTrace("mark(0, 2)", LITTLE, x -> x.mark(0, 2), UNCHANGED);
        dueNoTrace("mark(1, -1)", LITTLE, x -> x.mark(1, NONE), UNCHANGED);
        dueNoTrace("mark(2, -1)", NEW, x -> x.mark(2, NONE), UNCHANGED);
        dueNoTrace("mark(2, -1)", NO_OPERATION_LEFT, x -> x.mark(2, NONE), UNCHANGED);
        ChangeStore x = after(LITTLE);
        due("mark(1, 2), as another mark is", x.mark(1, 2), 8);
        due("mark(0, -1), as another mark is", x.mark(0, NONE), 9);
        dueMarks(x, 9, NONE, 2, NONE);
    }

    private static void markNone() {
        sentence("Promise 8", "the mark becomes c, or NONE with c = -1");
        ChangeStore x = after(LITTLE);
        due("mark(0, -1)", x.mark(0, NONE), 8);
        dueMarks(x, 8, NONE, NONE, NONE);
        due("mark(0, 0), the root", x.mark(0, 0), 9);
        dueMarks(x, 9, 0, NONE, NONE);
        due("mark(0, -1), where it is the root", x.mark(0, NONE), 10);
        dueMarks(x, 10, NONE, NONE, NONE);
        dueMarks(x, 9, 0, NONE, NONE);
    }

    private static void markFull() {
        noRoom("mark");
        dueNoTrace("mark(0, 1)", NO_OPERATION_LEFT, x -> x.mark(0, 1), FULL);
        ChangeStore x = after(NO_COMMIT_LEFT);
        due("mark(0, 1), no commit left", x.mark(0, 1), 60);
    }

    private static void undoAtZero() {
        sentence("Promise 9", "REFUSED if the current one is operation 0");
        dueNoTrace("undo() of a new object", NEW, x -> x.undo(), REFUSED);
        Consumer<ChangeStore> lineOneAtZero = x -> {
            LITTLE.accept(x);
            x.fork(0);
        };
        dueNoTrace("undo() on line 1", lineOneAtZero, x -> x.undo(), REFUSED);
        Consumer<ChangeStore> fullAtZero = x -> {
            NO_OPERATION_LEFT.accept(x);
            x.fork(0);
        };
        dueNoTrace("undo() on line 1, no operation left", fullAtZero, x -> x.undo(), REFUSED);
        ChangeStore x = chain(1);
        due("undo() at operation 1", x.undo(), 2);
        dueVisible(x, 2, 0);
        due("restore(0)", x.restore(0), 3);
        due("undo() at a view of operation 0", x.undo(), 4);
        due("working(4)", x.working(4), 0);
    }

    private static void undoAtJoin() {
        sentence("Promise 9", "or was made by join()");
        Consumer<ChangeStore> joined = x -> {
            APART.accept(x);
            x.join();
        };
        dueNoTrace("undo()", joined, x -> x.undo(), REFUSED);
        Consumer<ChangeStore> joinedAtOnce = x -> {
            x.fork(0);
            x.join();
        };
        dueNoTrace("undo() of a join at once", joinedAtOnce, x -> x.undo(), REFUSED);
        Consumer<ChangeStore> lineOneAtJoin = x -> {
            joined.accept(x);
            x.edit(0);
            x.fork(9);
        };
        dueNoTrace("undo() on line 1 at a join", lineOneAtJoin, x -> x.undo(), REFUSED);
        ChangeStore x = after(joined);
        due("restore(9), the join's own view", x.restore(9), 10);
        due("undo() after that", x.undo(), 11);
        dueBefore(x, 11, 10);
        due("undo() of that", x.undo(), 12);
    }

    private static void undoFull() {
        noRoom("undo");
        dueNoTrace("undo()", NO_OPERATION_LEFT, x -> x.undo(), FULL);
        ChangeStore x = after(NO_COMMIT_LEFT);
        due("undo(), no commit left", x.undo(), 60);
        due("working(60)", x.working(60), 58);
    }

    /** A commit that undo took away keeps its number, and undo of undo shows it again. */
    private static void undoTwice() {
        sentence("Promise 9", "the view becomes that of the first operation before the current one");
        ChangeStore x = after(LITTLE);
        due("undo()", x.undo(), 8);
        due("working(8)", x.working(8), 5);
        due("undo()", x.undo(), 9);
        due("working(9)", x.working(9), 4);
        dueMarks(x, 9, 2, NONE, NONE);
        x = after(APART);
        due("undo() on line 1", x.undo(), 9);
        dueBefore(x, 9, 8);
        dueVisible(x, 9, 0, 2, 4);
        dueMarks(x, 9, NONE, NONE, NONE);
    }

    private static void restoreRefused() {
        sentence("Promise 10", "REFUSED if there is no such operation");
        for (int operation : NO_INDEX) {
            dueNoTrace("restore(" + operation + ")", LITTLE, x -> x.restore(operation), REFUSED);
        }
        dueNoTrace("restore(8), the next", LITTLE, x -> x.restore(8), REFUSED);
        dueNoTrace("restore(1) of a new object", NEW, x -> x.restore(1), REFUSED);
        dueNoTrace("restore(100)", NO_OPERATION_LEFT, x -> x.restore(100), REFUSED);
        ChangeStore x = after(LITTLE);
        due("restore(7), the current and last", x.restore(7), 8);
        due("restore(0), the first", x.restore(0), 9);
        dueVisible(x, 9, 0);
        dueMarks(x, 9, NONE, NONE, NONE);
        dueBefore(x, 9, 8);
        x = new ChangeStore();
        due("restore(0) of a new object", x.restore(0), 1);
    }

    private static void restoreFull() {
        noRoom("restore");
        dueNoTrace("restore(0)", NO_OPERATION_LEFT, x -> x.restore(0), FULL);
        dueNoTrace("restore(99)", NO_OPERATION_LEFT, x -> x.restore(99), FULL);
        ChangeStore x = after(NO_COMMIT_LEFT);
        due("restore(0), no commit left", x.restore(0), 60);
    }

    private static void forkWithLineOne() {
        sentence("Promise 11", "Refused with false if there is a line 1");
        dueNoTrace("fork(0)", APART, x -> number(x.fork(0)), 0);
        dueNoTrace("fork(8)", APART, x -> number(x.fork(8)), 0);
        dueNoTrace("fork(4), as before", APART, x -> number(x.fork(4)), 0);
        dueNoTrace("fork(0) from line 0", APART_ON_LINE_0, x -> number(x.fork(0)), 0);
        dueNoTrace("fork(7) from line 0", APART_ON_LINE_0, x -> number(x.fork(7)), 0);
    }

    private static void forkNoOperation() {
        sentence("Promise 11", "or no such operation");
        for (int operation : NO_INDEX) {
            dueNoTrace("fork(" + operation + ")", LITTLE, x -> number(x.fork(operation)), 0);
        }
        dueNoTrace("fork(8), the next", LITTLE, x -> number(x.fork(8)), 0);
        dueNoTrace("fork(1) of a new object", NEW, x -> number(x.fork(1)), 0);
        dueNoTrace("fork(100)", NO_OPERATION_LEFT, x -> number(x.fork(100)), 0);
    }

    private static void forkBegins() {
        sentence("Promise 11", "Line 1 begins, with this operation as its current one, and is chosen: true");
        for (int operation = 0; operation <= 7; operation++) {
            ChangeStore x = after(LITTLE);
            due("fork(" + operation + ")", x.fork(operation), true);
            due("operation()", x.operation(), operation);
            due("restore(0), the next number", x.restore(0), 8);
            dueBefore(x, 8, operation);
            due("choose(0)", x.choose(0), true);
            due("operation() of line 0", x.operation(), 7);
        }
        ChangeStore x = after(NO_OPERATION_LEFT);
        due("fork(99), no operation left", x.fork(99), true);
        due("operation()", x.operation(), 99);
        x = after(APART);
        x.join();
        due("fork(9), after a join", x.fork(9), true);
        due("operation()", x.operation(), 9);
    }

    private static void chooseRefused() {
        sentence("Promise 12", "Refused with false if there is none");
        for (int line : NO_INDEX) {
            dueNoTrace("choose(" + line + ")", LITTLE, x -> number(x.choose(line)), 0);
            dueNoTrace("choose(" + line + ")", APART, x -> number(x.choose(line)), 0);
        }
        dueNoTrace("choose(2)", APART, x -> number(x.choose(2)), 0);
        dueNoTrace("choose(2) from line 0", APART_ON_LINE_0, x -> number(x.choose(2)), 0);
        dueNoTrace("choose(1) without a line 1", LITTLE, x -> number(x.choose(1)), 0);
        dueNoTrace("choose(1) of a new object", NEW, x -> number(x.choose(1)), 0);
        Consumer<ChangeStore> joined = x -> {
            APART.accept(x);
            x.join();
        };
        dueNoTrace("choose(1) after a join", joined, x -> number(x.choose(1)), 0);
    }

    private static void chooseAgain() {
        sentence("Promise 12", "The line is chosen: true");
        dueNoTrace("choose(0), chosen already", LITTLE, x -> number(x.choose(0)), 1);
        dueNoTrace("choose(1), chosen already", APART, x -> number(x.choose(1)), 1);
        dueNoTrace("choose(0), chosen already", APART_ON_LINE_0, x -> number(x.choose(0)), 1);
        ChangeStore x = after(APART);
        due("choose(0)", x.choose(0), true);
        due("operation()", x.operation(), 7);
        due("choose(1)", x.choose(1), true);
        due("operation()", x.operation(), 8);
    }

    private static void joinRefused() {
        sentence("Promise 13", "REFUSED if there is no line 1");
        dueNoTrace("join() of a new object", NEW, x -> x.join(), REFUSED);
        dueNoTrace("join()", LITTLE, x -> x.join(), REFUSED);
        dueNoTrace("join()", NO_OPERATION_LEFT, x -> x.join(), REFUSED);
        dueNoTrace("join()", NO_COMMIT_LEFT, x -> x.join(), REFUSED);
        Consumer<ChangeStore> joined = x -> {
            APART.accept(x);
            x.join();
        };
        dueNoTrace("join() again", joined, x -> x.join(), REFUSED);
    }

    private static void joinFull() {
        noRoom("join");
        Consumer<ChangeStore> forked = x -> {
            NO_OPERATION_LEFT.accept(x);
            x.fork(3);
        };
        dueNoTrace("join(), line 1 chosen", forked, x -> x.join(), FULL);
        Consumer<ChangeStore> onLineZero = x -> {
            forked.accept(x);
            x.choose(0);
        };
        dueNoTrace("join(), line 0 chosen", onLineZero, x -> x.join(), FULL);
    }

    private static void joinEnds() {
        sentence("Promise 13", "which is answered and is current in line 0 then; line 0 is chosen, and there is no line 1 any more");
        for (int line = 0; line <= 1; line++) {
            ChangeStore x = after(APART);
            due("choose(" + line + ")", x.choose(line), true);
            due("join()", x.join(), 9);
            due("operation()", x.operation(), 9);
            due("choose(1)", x.choose(1), false);
            due("choose(0)", x.choose(0), true);
            due("operation()", x.operation(), 9);
            due("edit(0)", x.edit(0), 10);
            dueBefore(x, 10, 9);
        }
    }

    /** O shows 1, 2, 3 and 4, line 1 takes out 1 and 3 and line 0 takes out 2 and 3; each makes one. */
    private static void joinVisible() {
        sentence("Promise 13", "visible are the commits that are visible in both A and B, or in one of them and not in O");
        ChangeStore x = new ChangeStore();
        for (int c = 1; c <= 4; c++) {
            x.create(0);
        }
        due("fork(4)", x.fork(4), true);
        x.abandon(1);
        x.abandon(3);
        due("create(0) in line 1", x.create(0), 7);
        due("choose(0)", x.choose(0), true);
        x.abandon(2);
        x.abandon(3);
        due("create(0) in line 0", x.create(0), 10);
        due("join()", x.join(), 11);
        dueVisible(x, 11, 0, 4, 5, 6);
        inBothAndNotInO();
        fromAnEmptyView();
    }

    private static void inBothAndNotInO() {
        ChangeStore x = chain(2);
        due("fork(1)", x.fork(1), true);
        due("restore(2)", x.restore(2), 3);
        due("join()", x.join(), 4);
        dueVisible(x, 4, 0, 1, 2);
        x = chain(2);
        due("fork(2)", x.fork(2), true);
        due("restore(0)", x.restore(0), 3);
        due("choose(0)", x.choose(0), true);
        due("restore(0)", x.restore(0), 4);
        due("join(), of two empty ones", x.join(), 5);
        dueVisible(x, 5, 0);
    }

    /** O is the view of operation 0, so that whatever either line has is new. */
    private static void fromAnEmptyView() {
        ChangeStore x = after(LITTLE);
        due("fork(0)", x.fork(0), true);
        due("join()", x.join(), 8);
        dueVisible(x, 8, 0, 2, 4, 5);
        dueMarks(x, 8, 2, NONE, NONE);
        due("working(8)", x.working(8), 4);
        dueBefore(x, 8, 7, 0);
    }

    private static void joinMarks() {
        sentence("Promise 13", "a mark is what it is in B, if it is in A what it is in O; else what it is in A, if it is in B what it is in O or in A; else DISPUTED");
        dueJoined("the same in all", 1, 1, 1, 1);
        dueJoined("NONE in all", NONE, NONE, NONE, NONE);
        dueJoined("other in B", 1, 1, 2, 2);
        dueJoined("NONE in B", 1, 1, NONE, NONE);
        dueJoined("new in B", NONE, NONE, 2, 2);
        dueJoined("other in A", 1, 2, 1, 2);
        dueJoined("NONE in A", 1, NONE, 1, NONE);
        dueJoined("new in A", NONE, 2, NONE, 2);
        dueJoined("the same in A and B", 1, 2, 2, 2);
        dueJoined("NONE in A and B", 1, NONE, NONE, NONE);
        dueJoined("other in each", 0, 1, 2, DISPUTED);
        dueJoined("NONE in A, other in B", 0, NONE, 2, DISPUTED);
        dueJoined("other in A, NONE in B", 0, 1, NONE, DISPUTED);
        dueJoined("new in each", NONE, 1, 2, DISPUTED);
    }

    private static void dueJoined(String what, int inO, int inA, int inB, int want) {
        for (int mark = 0; mark < 3; mark++) {
            ChangeStore x = chain(2);
            x.mark(mark, inO);
            due("fork()", x.fork(x.operation()), true);
            x.mark(mark, inB);
            due("choose(0)", x.choose(0), true);
            x.mark(mark, inA);
            int joined = x.join();
            for (int other = 0; other < 3; other++) {
                due("mark " + other + ", " + what, x.marked(joined, other), other == mark ? want : NONE);
            }
        }
    }

    /** DISPUTED is a mark's value like others: what only one line took away is gone, else it stays. */
    private static void joinDisputed() {
        sentence("Promise 13", "a mark is what it is in B, if it is in A what it is in O (DISPUTED)");
        due("DISPUTED in all", joinedDispute(DISPUTED, DISPUTED), DISPUTED);
        due("a commit in B", joinedDispute(DISPUTED, 1), 1);
        due("NONE in B", joinedDispute(DISPUTED, NONE), NONE);
        due("a commit in A", joinedDispute(0, DISPUTED), 0);
        due("NONE in A", joinedDispute(NONE, DISPUTED), NONE);
        due("the same in A and B", joinedDispute(1, 1), 1);
        due("other in each", joinedDispute(0, 1), DISPUTED);
    }

    private static int joinedDispute(int inA, int inB) {
        ChangeStore x = after(DISPUTE);
        due("fork(4)", x.fork(4), true);
        if (inB != DISPUTED) {
            x.mark(0, inB);
        }
        due("choose(0)", x.choose(0), true);
        if (inA != DISPUTED) {
            x.mark(0, inA);
        }
        return x.marked(x.join(), 0);
    }

    private static void joinWorking() {
        sentence("Promise 13", "the working commit is that of B if that of A is that of O, else that of A");
        due("the same in all", joinedWorking(2, 2), 2);
        due("other in B", joinedWorking(2, 1), 1);
        due("the root in B", joinedWorking(2, 0), 0);
        due("other in A", joinedWorking(1, 2), 1);
        due("the root in A", joinedWorking(0, 2), 0);
        due("the same in A and B", joinedWorking(1, 1), 1);
        due("other in each", joinedWorking(0, 1), 0);
    }

    private static int joinedWorking(int inA, int inB) {
        ChangeStore x = chain(2);
        due("fork(2)", x.fork(2), true);
        x.edit(inB);
        due("choose(0)", x.choose(0), true);
        x.edit(inA);
        return x.working(x.join());
    }

    private static void joinSettled() {
        sentence("Promise 13", "Then it is settled");
        ChangeStore x = chain(2);
        x.mark(0, 2);
        due("fork(3)", x.fork(3), true);
        due("abandon(1)", x.abandon(1), 4);
        due("choose(0)", x.choose(0), true);
        due("create(2)", x.create(2), 5);
        due("mark(1, 1)", x.mark(1, 1), 6);
        due("join()", x.join(), 7);
        dueCommit(x, 5, 3, 3);
        dueVisible(x, 7, 0, 3, 5);
        dueMarks(x, 7, 3, 0, NONE);
        due("working(7)", x.working(7), 5);
    }

    private static void joinBefore() {
        sentence("Promise 13", "The first operation before the new one is the current one of line 0, the second that of line 1");
        ChangeStore x = after(APART);
        due("join()", x.join(), 9);
        dueBefore(x, 9, 7, 8);
        due("fork(9)", x.fork(9), true);
        due("join() at once", x.join(), 10);
        dueBefore(x, 10, 9, 9);
        due("fork(0)", x.fork(0), true);
        due("join() with operation 0", x.join(), 11);
        dueBefore(x, 11, 10, 0);
    }

    private static void operationAfterAll() {
        sentence("Promise 14", "The current operation of the chosen line");
        dueNoTrace("operation() of a new object", NEW, x -> x.operation(), 0);
        dueNoTrace("operation()", LITTLE, x -> x.operation(), 7);
        dueNoTrace("operation() of line 1", APART, x -> x.operation(), 8);
        dueNoTrace("operation() of line 0", APART_ON_LINE_0, x -> x.operation(), 7);
        dueNoTrace("operation(), the last", NO_OPERATION_LEFT, x -> x.operation(), 99);
    }

    private static void beforeNone() {
        sentence("Promise 15", "NONE if there is none, no such operation, or which is neither");
        Consumer<ChangeStore> joined = x -> {
            APART.accept(x);
            x.join();
        };
        for (int i : NO_INDEX) {
            dueAnswer("before(9, " + i + ")", joined, x -> x.before(9, i), NONE);
            dueAnswer("before(" + i + ", 0)", joined, x -> x.before(i, 0), NONE);
            dueAnswer("before(" + i + ", 1)", joined, x -> x.before(i, 1), NONE);
        }
        dueAnswer("before(9, 2)", joined, x -> x.before(9, 2), NONE);
        dueAnswer("before(10, 0)", joined, x -> x.before(10, 0), NONE);
        dueAnswer("before(10, 1)", joined, x -> x.before(10, 1), NONE);
        dueAnswer("before(0, 0)", joined, x -> x.before(0, 0), NONE);
        dueAnswer("before(0, 1)", joined, x -> x.before(0, 1), NONE);
        dueAnswer("before(8, 1)", joined, x -> x.before(8, 1), NONE);
        dueAnswer("before(9, 0)", joined, x -> x.before(9, 0), 7);
        dueAnswer("before(9, 1)", joined, x -> x.before(9, 1), 8);
        dueAnswer("before(99, 0)", NO_OPERATION_LEFT, x -> x.before(99, 0), 98);
        dueAnswer("before(100, 0)", NO_OPERATION_LEFT, x -> x.before(100, 0), NONE);
    }

    private static void dueAnswer(String what, Consumer<ChangeStore> run, ToLongFunction<ChangeStore> call, long want) {
        due(what, call.applyAsLong(after(run)), want);
    }

    private static void visibleNone() {
        sentence("Promise 16", "Whether c is visible in the view of an operation; false if there is no such one");
        for (int i : NO_INDEX) {
            dueAnswer("visible(7, " + i + ")", LITTLE, x -> number(x.visible(7, i)), 0);
            dueAnswer("visible(" + i + ", 0)", LITTLE, x -> number(x.visible(i, 0)), 0);
            dueAnswer("visible(" + i + ", " + i + ")", LITTLE, x -> number(x.visible(i, i)), 0);
        }
        dueAnswer("visible(8, 0), the next", LITTLE, x -> number(x.visible(8, 0)), 0);
        dueAnswer("visible(7, 6), the next", LITTLE, x -> number(x.visible(7, 6)), 0);
        dueAnswer("visible(7, 3), replaced", LITTLE, x -> number(x.visible(7, 3)), 0);
        dueAnswer("visible(3, 3), not yet replaced", LITTLE, x -> number(x.visible(3, 3)), 1);
        dueAnswer("visible(4, 5), not yet made", LITTLE, x -> number(x.visible(4, 5)), 0);
        dueAnswer("visible(59, 59)", NO_COMMIT_LEFT, x -> number(x.visible(59, 59)), 1);
        dueAnswer("visible(58, 59)", NO_COMMIT_LEFT, x -> number(x.visible(58, 59)), 0);
        for (int c = 60; c <= 64; c++) {
            int beyond = c;
            dueAnswer("visible(59, " + c + ")", NO_COMMIT_LEFT, x -> number(x.visible(59, beyond)), 0);
        }
        dueAnswer("visible(99, 3)", NO_OPERATION_LEFT, x -> number(x.visible(99, 3)), 1);
        dueAnswer("visible(100, 0)", NO_OPERATION_LEFT, x -> number(x.visible(100, 0)), 0);
    }

    private static void workingNone() {
        sentence("Promise 17", "NONE if there is no such one");
        for (int operation : NO_INDEX) {
            dueAnswer("working(" + operation + ")", LITTLE, x -> x.working(operation), NONE);
        }
        dueAnswer("working(8), the next", LITTLE, x -> x.working(8), NONE);
        dueAnswer("working(7), the last", LITTLE, x -> x.working(7), 4);
        dueAnswer("working(0), the first", LITTLE, x -> x.working(0), 0);
        dueAnswer("working(99)", NO_OPERATION_LEFT, x -> x.working(99), 1);
        dueAnswer("working(100)", NO_OPERATION_LEFT, x -> x.working(100), NONE);
    }

    /** All marks of all operations are commits or DISPUTED here, so that a wrong row would show. */
    private static void markedNone() {
        sentence("Promise 18", "NONE also if there is no such one or no such mark");
        Consumer<ChangeStore> allMarked = x -> {
            DISPUTE.accept(x);
            x.mark(1, 1);
            x.mark(2, 1);
            x.mark(2, 0);
        };
        for (int i : NO_INDEX) {
            dueAnswer("marked(6, " + i + ")", allMarked, x -> x.marked(6, i), NONE);
            for (int mark = 0; mark < 3; mark++) {
                int known = mark;
                dueAnswer("marked(" + i + ", " + mark + ")", allMarked, x -> x.marked(i, known), NONE);
            }
        }
        dueAnswer("marked(6, 3)", allMarked, x -> x.marked(6, 3), NONE);
        dueAnswer("marked(7, 3)", allMarked, x -> x.marked(7, 3), NONE);
        dueAnswer("marked(8, 0), the next", allMarked, x -> x.marked(8, 0), NONE);
        dueAnswer("marked(7, 0)", allMarked, x -> x.marked(7, 0), DISPUTED);
        dueAnswer("marked(7, 1)", allMarked, x -> x.marked(7, 1), 1);
        dueAnswer("marked(7, 2)", allMarked, x -> x.marked(7, 2), 0);
        dueAnswer("marked(0, 0)", allMarked, x -> x.marked(0, 0), NONE);
        dueAnswer("marked(100, 0)", NO_OPERATION_LEFT, x -> x.marked(100, 0), NONE);
    }

    private static void headNone() {
        sentence("Promise 19", "NONE if there is none or no such operation");
        for (int i : NO_INDEX) {
            dueAnswer("head(7, " + i + ")", LITTLE, x -> x.head(7, i), NONE);
            dueAnswer("head(" + i + ", 0)", LITTLE, x -> x.head(i, 0), NONE);
        }
        dueAnswer("head(7, 2), past the last", LITTLE, x -> x.head(7, 2), NONE);
        dueAnswer("head(8, 0), the next operation", LITTLE, x -> x.head(8, 0), NONE);
        dueAnswer("head(0, 1)", LITTLE, x -> x.head(0, 1), NONE);
        dueAnswer("head(99, 0)", NO_OPERATION_LEFT, x -> x.head(99, 0), 3);
        dueAnswer("head(99, 1)", NO_OPERATION_LEFT, x -> x.head(99, 1), NONE);
        dueAnswer("head(100, 0)", NO_OPERATION_LEFT, x -> x.head(100, 0), NONE);
    }

    private static void headByNumber() {
        sentence("Promise 19", "The i-th (from 0) by number of the visible commits that are no visible commit's parent");
        ChangeStore x = after(LITTLE);
        dueHeads(x, 0, 0);
        dueHeads(x, 7, 4, 5);
        due("create(2)", x.create(2), 8);
        dueHeads(x, 8, 4, 5, 6);
        due("abandon(4)", x.abandon(4), 9);
        dueHeads(x, 9, 5, 6);
        due("abandon(6), 2 has children that are not visible", x.abandon(6), 10);
        dueHeads(x, 10, 2, 5);
        due("restore(0)", x.restore(0), 11);
        dueHeads(x, 11, 0);
        x = new ChangeStore();
        for (int c = 1; c < 60; c++) {
            x.create(0);
        }
        due("head(59, 0)", x.head(59, 0), 1);
        due("head(59, 58)", x.head(59, 58), 59);
        due("head(59, 59)", x.head(59, 59), NONE);
    }

    private static void commitNone() {
        sentence("Promise 20", "NONE if there is no such commit or what is neither");
        for (int i : NO_INDEX) {
            dueAnswer("commit(4, " + i + ")", LITTLE, x -> x.commit(4, i), NONE);
            dueAnswer("commit(" + i + ", 0)", LITTLE, x -> x.commit(i, 0), NONE);
            dueAnswer("commit(" + i + ", 1)", LITTLE, x -> x.commit(i, 1), NONE);
        }
        dueAnswer("commit(4, 2)", LITTLE, x -> x.commit(4, 2), NONE);
        dueAnswer("commit(0, 2)", LITTLE, x -> x.commit(0, 2), NONE);
        dueAnswer("commit(6, 0), the next", LITTLE, x -> x.commit(6, 0), NONE);
        dueAnswer("commit(6, 1), the next", LITTLE, x -> x.commit(6, 1), NONE);
        dueAnswer("commit(59, 0)", NO_COMMIT_LEFT, x -> x.commit(59, 0), 58);
        dueAnswer("commit(59, 1)", NO_COMMIT_LEFT, x -> x.commit(59, 1), 59);
        dueAnswer("commit(60, 0)", NO_COMMIT_LEFT, x -> x.commit(60, 0), NONE);
        dueAnswer("commit(60, 1)", NO_COMMIT_LEFT, x -> x.commit(60, 1), NONE);
    }

    private static void commitOfRoot() {
        sentence("Promise 20", "its parent (what = 0; NONE for the root) or its change (what = 1)");
        dueAnswer("commit(0, 0)", LITTLE, x -> x.commit(0, 0), NONE);
        dueAnswer("commit(0, 1)", LITTLE, x -> x.commit(0, 1), 0);
        dueAnswer("commit(1, 0), replaced", LITTLE, x -> x.commit(1, 0), 0);
        dueAnswer("commit(3, 0), whose parent is 2", LITTLE, x -> x.commit(3, 0), 2);
        dueAnswer("commit(3, 1), replaced", LITTLE, x -> x.commit(3, 1), 2);
        dueAnswer("commit(6, 0), of the other line", APART_ON_LINE_0, x -> x.commit(6, 0), 4);
        dueAnswer("commit(6, 1), of the other line", APART_ON_LINE_0, x -> x.commit(6, 1), 4);
    }

    /** Wherever a number is in a row, a number one row off must not be answered. */
    private static void countNone() {
        sentence("Promise 21", "0 if there is no such one");
        for (int i : NO_INDEX) {
            dueAnswer("count(" + i + ", 0, 0)", LITTLE, x -> x.count(i, 0, 0), 0);
            dueAnswer("count(" + i + ", 0, 1)", LITTLE, x -> x.count(i, 0, 1), 0);
            dueAnswer("count(4, " + i + ", 0)", LITTLE, x -> x.count(4, i, 0), 0);
            dueAnswer("count(4, " + i + ", 1)", LITTLE, x -> x.count(4, i, 1), 0);
            dueAnswer("count(4, 2, " + i + ")", LITTLE, x -> x.count(4, 2, i), 0);
        }
        dueAnswer("count(4, 4, 0)", LITTLE, x -> x.count(4, 4, 0), 0);
        dueAnswer("count(4, 4, 1)", LITTLE, x -> x.count(4, 4, 1), 0);
        dueAnswer("count(4, 2, 8)", LITTLE, x -> x.count(4, 2, 8), 0);
        dueAnswer("count(4, 3, -8)", LITTLE, x -> x.count(4, 3, -8), 0);
        dueAnswer("count(6, 0, 0), the next", LITTLE, x -> x.count(6, 0, 0), 0);
        dueAnswer("count(60, 0, 0)", NO_COMMIT_LEFT, x -> x.count(60, 0, 0), 0);
        dueAnswer("count(59, 3, 0)", NO_COMMIT_LEFT, x -> x.count(59, 3, 0), 1);
        dueAnswer("count(59, 3, 7)", NO_COMMIT_LEFT, x -> x.count(59, 3, 7), 0);
        dueAnswer("count(59, 3, 8)", NO_COMMIT_LEFT, x -> x.count(59, 3, 8), 0);
    }

    /** A commit that a call without room had made is none: its counts are not answered. */
    private static void countAfterFull() {
        sentence("Promise 21", "0 if there is no such one (after FULL)");
        ChangeStore x = chain(30);
        x.edit(1);
        due("write(0, 1)", x.write(0, 1), FULL);
        dueCounts(x, 31, 0);
        dueCounts(x, 31, 1);
        dueCounts(x, 59, 0);
    }

    /** With more than one argument wrong nothing is found either, and no call throws. */
    private static void allWrongAtOnce() {
        sentence("Promises 3 to 21", "REFUSED, NONE, false or 0 with every argument wrong");
        for (int i : NO_INDEX) {
            ChangeStore x = after(LITTLE);
            for (int j : NO_INDEX) {
                String both = "(" + i + ", " + j + ")";
                due("write" + both, x.write(i, j), REFUSED);
                due("rebase" + both, x.rebase(i, j), REFUSED);
                due("mark" + both, x.mark(i, j), REFUSED);
                due("before" + both, x.before(i, j), NONE);
                due("visible" + both, x.visible(i, j), false);
                due("marked" + both, x.marked(i, j), NONE);
                due("head" + both, x.head(i, j), NONE);
                due("commit" + both, x.commit(i, j), NONE);
                due("count" + both, x.count(i, j, j), 0);
                due("count" + both, x.count(i, j, i), 0);
            }
            due("operation() after all that", x.operation(), 7);
        }
    }

    /** The 512th call is answered as any other; what comes after it is free, but must not throw. */
    private static void last() {
        sentence("What it is", "An object is used for at most 512 calls after it has been made");
        ChangeStore x = after(NO_OPERATION_LEFT);
        for (int call = 100; call <= 510; call++) {
            due("write(3, 7), call " + call, x.write(3, 7), FULL);
        }
        due("fork(98), call 511", x.fork(98), true);
        due("operation(), call 512", x.operation(), 98);
        for (int call = 513; call < 2000; call++) {
            x.create(call % 70 - 5);
            x.join();
            x.head(call % 110, call % 7);
        }
    }

    public static void main(String[] args) {
        newObject();
        createOnAnyVisible();
        createRefused();
        createFull();
        writeAtEdges();
        writeOnRoot();
        writeNoPath();
        writeNoValue();
        writeUnchanged();
        writeFull();
        rebaseNotVisible();
        rebaseOntoNotVisible();
        rebaseOntoItself();
        rebaseOntoItsOwn();
        rebaseUnchanged();
        rebaseFull();
        abandonRefused();
        abandonFull();
        squashNotVisible();
        squashOnRoot();
        squashFull();
        editRefused();
        editUnchanged();
        editFull();
        markNoMark();
        markNotVisible();
        markUnchanged();
        markNone();
        markFull();
        undoAtZero();
        undoAtJoin();
        undoFull();
        undoTwice();
        restoreRefused();
        restoreFull();
        forkWithLineOne();
        forkNoOperation();
        forkBegins();
        chooseRefused();
        chooseAgain();
        joinRefused();
        joinFull();
        joinEnds();
        joinVisible();
        joinMarks();
        joinDisputed();
        joinWorking();
        joinSettled();
        joinBefore();
        operationAfterAll();
        beforeNone();
        visibleNone();
        workingNone();
        markedNone();
        headNone();
        headByNumber();
        commitNone();
        commitOfRoot();
        countNone();
        countAfterFull();
        allWrongAtOnce();
        last();
        end("EdgesTest");
    }
}
