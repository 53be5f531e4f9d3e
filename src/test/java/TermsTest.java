import java.util.ArrayList;
import java.util.Arrays;
import java.util.List;
import java.util.function.Consumer;
import java.util.function.ToLongFunction;

/** Each sentence of the document's 'Terms' that names a limit or an edge, by a test of its own. */
public final class TermsTest extends Checks {
    /** Calls that come to every command, to conflicts, to twins and to a disputed mark. */
    private static final List<Consumer<ChangeStore>> LONG_RUN = new ArrayList<>();

    static {
        LONG_RUN.addAll(Arrays.asList(
                x -> x.create(0), x -> x.write(0, 1), x -> x.create(2), x -> x.write(0, 2),
                x -> x.create(4), x -> x.write(1, 7), x -> x.mark(0, 2), x -> x.mark(1, 6),
                x -> x.edit(2), x -> x.write(0, 3), x -> x.create(0), x -> x.write(0, 5),
                x -> x.rebase(11, 7), x -> x.squash(8), x -> x.undo(), x -> x.abandon(8),
                x -> x.fork(9), x -> x.edit(6), x -> x.write(2, 4), x -> x.mark(1, 0),
                x -> x.mark(2, 2), x -> x.abandon(2), x -> x.choose(0), x -> x.mark(1, -1),
                x -> x.rebase(12, 0), x -> x.write(0, 6), x -> x.join(), x -> x.create(0),
                x -> x.restore(3), x -> x.create(3), x -> x.fork(2), x -> x.write(3, 1),
                x -> x.choose(0), x -> x.edit(3), x -> x.write(3, 2), x -> x.join(),
                x -> x.restore(13), x -> x.squash(12), x -> x.undo(), x -> x.restore(0)));
    }

    private static ChangeStore afterSome(int calls) {
        ChangeStore x = new ChangeStore();
        for (Consumer<ChangeStore> call : LONG_RUN.subList(0, calls)) {
            call.accept(x);
        }
        return x;
    }

    private static int commitsOf(ChangeStore x) {
        int size = 0;
        while (size < 60 && x.commit(size, 1) != NONE) {
            size++;
        }
        return size;
    }

    private static void numbersOfCommits() {
        sentence("Terms", "COMMITS have numbers 0, 1, .. in the order of their making");
        ChangeStore x = chain(3);
        dueCommit(x, 3, 2, 3);
        x.write(0, 1);
        dueCommit(x, 4, 2, 3);
        x.rebase(4, 1);
        dueCommit(x, 5, 1, 3);
        x.create(5);
        dueCommit(x, 6, 5, 4);
        x.squash(6);
        dueCommit(x, 7, 1, 3);
        x.abandon(1);
        dueCommit(x, 8, 0, 2);
        dueCommit(x, 9, 0, 3);
        dueCommit(x, 10, NONE, NONE);
    }

    private static void atMost60ByCreate() {
        sentence("Terms", "there are at most 60");
        ChangeStore x = chain(59);
        dueCommit(x, 59, 58, 59);
        due("visible(59, 59)", x.visible(59, 59), true);
        due("create(59), the 61st", x.create(59), FULL);
        due("create(0), the 61st", x.create(0), FULL);
        dueCommit(x, 60, NONE, NONE);
    }

    private static void atMost60ByReplacing() {
        sentence("Terms", "FULL (-3) if there would be more than 60 commits");
        ChangeStore x = chain(58);
        due("write(0, 1), the 60th", x.write(0, 1), 59);
        dueCommit(x, 59, 57, 58);
        due("write(0, 2), the 61st", x.write(0, 2), FULL);
        x = chain(58);
        due("rebase(58, 0), the 60th", x.rebase(58, 0), 59);
        dueCommit(x, 59, 0, 58);
        due("rebase(59, 1), the 61st", x.rebase(59, 1), FULL);
        x = chain(58);
        due("squash(58), the 60th", x.squash(58), 59);
        dueCommit(x, 59, 56, 57);
        due("squash(59), the 61st", x.squash(59), FULL);
        x = chain(59);
        due("abandon(59), which makes no commit", x.abandon(59), 60);
        due("edit(3), which makes no commit", x.edit(3), 61);
        due("mark(0, 3), which makes no commit", x.mark(0, 3), 62);
        due("undo(), which makes no commit", x.undo(), 63);
        due("restore(59), which makes no commit", x.restore(59), 64);
        due("fork(64)", x.fork(64), true);
        due("join(), which makes no commit", x.join(), 65);
    }

    /** What settling makes counts too: the 60th commit is the last that may be made on the way. */
    private static void atMost60BySettling() {
        sentence("Terms", "FULL (-3) if there would be more than 60 commits (by settling)");
        lastRoom("write(0, 1)", 30, 2, 1, x -> x.write(0, 1), 58, 30);
        lastRoom("rebase(c, 0)", 31, 4, 3, x -> x.rebase(x.working(x.operation()), 0), 58, 31);
        lastRoom("abandon(c)", 31, 3, 2, x -> x.abandon(x.working(x.operation())), 58, 31);
        lastRoom("squash(c)", 31, 4, 3, x -> x.squash(x.working(x.operation())), 58, 31);
    }

    /** The call on commit c of a chain makes 60 commits, and on the one below it would make 61. */
    private static void lastRoom(String what, int size, int c, int below, ToLongFunction<ChangeStore> call,
            int lastParent, int lastChange) {
        ChangeStore x = chain(size);
        due("edit(" + c + ")", x.edit(c), size + 1);
        due(what + ", up to 60", call.applyAsLong(x), size + 2);
        dueCommit(x, 59, lastParent, lastChange);
        dueNoTrace(what + ", beyond 60", y -> {
            for (int parent = 0; parent < size; parent++) {
                y.create(parent);
            }
            y.edit(below);
        }, call, FULL);
    }

    private static void atMost60ByJoin() {
        sentence("Terms", "FULL (-3) if there would be more than 60 commits (by the settling of a join)");
        ChangeStore x = after(y -> twentyNineToMove(y, 1));
        due("join(), up to 60", x.join(), 33);
        dueCommit(x, 59, 0, 30);
        dueMarks(x, 33, 0, NONE, NONE);
        due("working(33)", x.working(33), 59);
        Consumer<ChangeStore> oneMore = y -> twentyNineToMove(y, 2);
        dueNoTrace("join(), beyond 60", oneMore, y -> y.join(), FULL);
        dueNoTrace("join(), beyond 60, with line 1 chosen", y -> {
            oneMore.accept(y);
            y.choose(1);
        }, y -> y.join(), FULL);
    }

    /** Line 1 abandons commit 1, which line 0 marks; on it line 0 makes 29, each to be made anew. */
    private static void twentyNineToMove(ChangeStore x, int before) {
        for (int i = 0; i < before; i++) {
            x.create(0);
        }
        x.fork(before);
        x.abandon(1);
        x.choose(0);
        x.mark(0, 1);
        for (int i = 0; i < 29; i++) {
            x.create(1);
        }
    }

    /**
     * Change 3 stands on 2 and change 1 on 3 in line 0, change 2 on 1 in line 1: 3 goes onto the twin
     * of 2, that onto the twin of 1, that onto what 3 became, and so on round and round.
     */
    private static void endlessSettling() {
        sentence("Terms", "FULL (-3) if there would be more than 60 commits (as settling would never end)");
        Consumer<ChangeStore> round = x -> {
            x.create(0);
            x.create(0);
            x.fork(2);
            x.choose(0);
            x.create(2);
            x.choose(1);
            x.rebase(2, 1);
            x.choose(0);
            x.rebase(1, 3);
        };
        ChangeStore x = after(round);
        dueCommit(x, 3, 2, 3);
        dueCommit(x, 4, 1, 2);
        dueCommit(x, 5, 3, 1);
        dueNoTrace("join()", round, y -> y.join(), FULL);
        due("join()", x.join(), FULL);
        due("restore(2), after which it ends", x.restore(2), 6);
        due("join()", x.join(), 7);
        dueVisible(x, 7, 0, 1, 4);
    }

    private static void noneLostOrAltered() {
        sentence("Terms", "none is ever lost or altered");
        long[] last = {};
        for (int calls = 0; calls <= LONG_RUN.size(); calls++) {
            long[] now = commitsAfter(calls);
            due("the commits after call " + calls + ", fewer", now.length < last.length, false);
            for (int i = 0; i < Math.min(last.length, now.length); i++) {
                due("answer " + i % 34 + " of commit " + i / 34 + " after call " + calls, now[i], last[i]);
            }
            last = now;
        }
        due("the long run makes many commits", last.length > 34 * 20, true);
    }

    private static long[] commitsAfter(int calls) {
        int size = commitsOf(afterSome(calls));
        long[] answers = new long[34 * size];
        for (int c = 0; c < size; c++) {
            ChangeStore x = afterSome(calls);
            answers[34 * c] = x.commit(c, 0);
            answers[34 * c + 1] = x.commit(c, 1);
            for (int i = 0; i < 32; i++) {
                answers[34 * c + 2 + i] = x.count(c, i / 8, i % 8);
            }
        }
        return answers;
    }

    private static void lowerParents() {
        sentence("Terms", "but for 0, the ROOT, a PARENT, which has a lower number");
        ChangeStore x = afterSome(LONG_RUN.size());
        due("commit(0, 0)", x.commit(0, 0), NONE);
        int size = commitsOf(x);
        for (int c = 1; c < size; c++) {
            due("commit(" + c + ", 0) is lower", x.commit(c, 0) >= 0 && x.commit(c, 0) < c, true);
        }
    }

    private static void newChanges() {
        sentence("Terms", "a change that none had before: 1, 2, .. in the order of those calls (refused ones don't count)");
        ChangeStore x = new ChangeStore();
        due("commit(0, 1), the root's", x.commit(0, 1), 0);
        due("create(1)", x.create(1), REFUSED);
        due("create(-1)", x.create(-1), REFUSED);
        x.create(0);
        dueCommit(x, 1, 0, 1);
        due("create(2)", x.create(2), REFUSED);
        x.write(0, 1);
        x.undo();
        x.create(0);
        dueCommit(x, 3, 0, 2);
        x.restore(0);
        due("fork(0)", x.fork(0), true);
        x.create(0);
        dueCommit(x, 4, 0, 3);
        due("choose(0)", x.choose(0), true);
        due("create(4), of the other line", x.create(4), REFUSED);
        x.create(0);
        dueCommit(x, 5, 0, 4);
        x.join();
        x.create(5);
        dueCommit(x, 6, 5, 5);
        x = chain(31);
        x.edit(1);
        due("write(0, 1)", x.write(0, 1), FULL);
        x.create(0);
        dueCommit(x, 32, 0, 32);
    }

    private static void sumOfCounts() {
        sentence("Terms", "the counts of all eight have the sum 1");
        int size = commitsOf(afterSome(LONG_RUN.size()));
        for (int c = 0; c < size; c++) {
            ChangeStore x = afterSome(LONG_RUN.size());
            for (int path = 0; path < 4; path++) {
                long sum = 0;
                for (int v = 0; v < 8; v++) {
                    sum += x.count(c, path, v);
                }
                due("the sum of commit " + c + ", path " + path, sum, 1);
            }
        }
    }

    /**
     * Each round has two commits of the content C on the root, as the join shows one that neither
     * line took out beside what it was replaced by. One on the other is C + C - R, R the root's.
     */
    private static void exactCounts() {
        sentence("Terms", "a COUNT (exact, perhaps below 0)");
        ChangeStore x = conflict();
        due("squash(5)", x.squash(5), 6);
        dueCommit(x, 6, 0, 1);
        int c = 6;
        for (int round = 1; round <= 17; round++) {
            int shown = x.operation();
            due("fork(0)", x.fork(0), true);
            due("restore(" + shown + ")", x.restore(shown), shown + 1);
            due("choose(0)", x.choose(0), true);
            due("write(1, 1 or 2)", x.write(1, 1 + round % 2), shown + 2);
            due("join()", x.join(), shown + 3);
            due("rebase(" + (c + 1) + ", " + c + ")", x.rebase(c + 1, c), shown + 4);
            due("squash(" + (c + 2) + ")", x.squash(c + 2), shown + 5);
            c += 3;
            dueCounts(x, c, 0, 1 - (2 << round), 1 << round, 1 << round);
        }
        due("count(57, 0, 0)", x.count(57, 0, 0), -262143);
    }

    private static void plainOrConflict() {
        sentence("Terms", "It is PLAIN with a value when the count of that value is 1 and all others are 0");
        ChangeStore x = conflict();
        dueCounts(x, 5, 0, -1, 1, 1);
        due("write(0, 1), over a conflict with one 1", x.write(0, 1), 6);
        due("write(0, 1), over a plain 1", x.write(0, 1), UNCHANGED);
        due("undo()", x.undo(), 7);
        due("write(0, 2), over a conflict with one 2", x.write(0, 2), 8);
        due("write(0, 2), over a plain 2", x.write(0, 2), UNCHANGED);
        due("undo()", x.undo(), 9);
        due("write(0, 0), over a conflict without a 0 above 0", x.write(0, 0), 10);
        due("write(0, 0), over a plain 0", x.write(0, 0), UNCHANGED);
    }

    private static void plainRoot() {
        sentence("Terms", "The root's contents are plain with 0");
        ChangeStore x = new ChangeStore();
        for (int path = 0; path < 4; path++) {
            duePlain(x, 0, path, 0);
        }
    }

    private static void justTwoCounts() {
        sentence("Terms", "if just two counts would then not be 0, it is plain with the value whose count would be above 0");
        due("2 of 1, -1 of 0", moved(0, 1, 1), 1);
        due("2 of 7, -1 of 0", moved(0, 7, 7), 7);
        due("2 of 0, -1 of 7", moved(7, 0, 0), 0);
        due("2 of 0, -1 of 1", moved(1, 0, 0), 0);
        due("1 of 2 alone", moved(1, 1, 2), 2);
        due("1 of 2 alone", moved(1, 2, 1), 2);
        due("three", moved(0, 1, 2), -1);
        due("three", moved(7, 0, 3), -1);
    }

    /** The value that is plain, or -1, when a commit with x on one with z is rebased onto one with y. */
    private static int moved(int z, int x, int y) {
        ChangeStore s = new ChangeStore();
        s.create(0);
        s.write(3, z);
        int below = s.working(s.operation());
        s.create(below);
        s.write(3, y);
        int onto = s.working(s.operation());
        s.create(below);
        s.write(3, x);
        s.rebase(s.working(s.operation()), onto);
        int made = s.working(s.operation());
        due("the parent of the one rebased", s.commit(made, 0), onto);
        for (int v = 0; v < 8; v++) {
            if (s.count(made, 3, v) == 1 && othersAreZero(s, made, v)) {
                return v;
            }
        }
        return -1;
    }

    private static boolean othersAreZero(ChangeStore x, int c, int v) {
        for (int other = 0; other < 8; other++) {
            if (other != v && x.count(c, 3, other) != 0) {
                return false;
            }
        }
        return true;
    }

    /** Counts -2, 1 and 2 lose the 1 and win a 2, so 3 of one value and -2 of another would be left. */
    private static void justTwoGreaterCounts() {
        sentence("Terms", "if just two counts would then not be 0 (3 and -2)");
        ChangeStore x = conflict();
        x.create(0);
        x.write(0, 2);
        due("rebase(7, 5)", x.rebase(7, 5), 8);
        due("squash(8)", x.squash(8), 9);
        dueCommit(x, 9, 2, 2);
        dueCounts(x, 9, 0, -2, 1, 2);
        due("edit(2)", x.edit(2), 10);
        due("write(0, 2), where 1 was", x.write(0, 2), 11);
        dueCommit(x, 11, 10, 2);
        duePlain(x, 11, 0, 2);
        due("undo()", x.undo(), 12);
        due("write(0, 3), where 1 was", x.write(0, 3), 13);
        dueCommit(x, 13, 12, 2);
        dueCounts(x, 13, 0, -2, 0, 2, 1);
    }

    private static void viewHoldsTogether() {
        sentence("Terms", "A VIEW is: a set of VISIBLE commits, with the root and with the parent of each other one in it");
        int last = lastOperation();
        int size = commitsOf(afterSome(LONG_RUN.size()));
        for (int operation = 0; operation <= last; operation++) {
            ChangeStore x = afterSome(LONG_RUN.size());
            due("visible(" + operation + ", 0)", x.visible(operation, 0), true);
            for (int c = 1; c < size; c++) {
                boolean parentIsLost = x.visible(operation, c) && !x.visible(operation, x.commit(c, 0));
                due("the parent of " + c + " not in view " + operation, parentIsLost, false);
            }
        }
        due("the long run makes many operations", last >= 30, true);
    }

    private static int lastOperation() {
        return afterSome(LONG_RUN.size()).operation();
    }

    private static void marksOfView() {
        sentence("Terms", "three MARKS 0 .. 2, each one of those commits, NONE (-1) or DISPUTED (-2)");
        int last = lastOperation();
        int commits = 0;
        int none = 0;
        int disputed = 0;
        for (int operation = 0; operation <= last; operation++) {
            ChangeStore x = afterSome(LONG_RUN.size());
            for (int mark = 0; mark < 3; mark++) {
                int is = x.marked(operation, mark);
                commits += x.visible(operation, is) ? 1 : 0;
                none += is == NONE ? 1 : 0;
                disputed += is == DISPUTED ? 1 : 0;
            }
        }
        due("the marks that are one of the three", commits + none + disputed, 3 * (last + 1));
        due("there are all three", commits > 0 && none > 0 && disputed > 0, true);
    }

    private static void workingIsVisible() {
        sentence("Terms", "and a WORKING commit, which is visible");
        ChangeStore x = afterSome(LONG_RUN.size());
        int last = x.operation();
        for (int operation = 0; operation <= last; operation++) {
            due("the working commit of " + operation, x.visible(operation, x.working(operation)), true);
        }
    }

    private static void numbersOfOperations() {
        sentence("Terms", "OPERATIONS have numbers 0, 1, .. in the order of their making");
        ChangeStore x = new ChangeStore();
        due("create(0)", x.create(0), 1);
        due("write(0, 0)", x.write(0, 0), UNCHANGED);
        due("write(0, 1)", x.write(0, 1), 2);
        due("edit(1)", x.edit(1), REFUSED);
        due("undo()", x.undo(), 3);
        due("fork(2)", x.fork(2), true);
        due("mark(0, 0) in line 1", x.mark(0, 0), 4);
        due("choose(0)", x.choose(0), true);
        due("restore(2) in line 0", x.restore(2), 5);
        due("choose(1)", x.choose(1), true);
        due("edit(0) in line 1", x.edit(0), 6);
        due("join()", x.join(), 7);
        due("squash(2)", x.squash(2), REFUSED);
        due("abandon(2)", x.abandon(2), 8);
    }

    private static void atMost100() {
        sentence("Terms", "at most 100");
        lastOperation("create(0)", x -> x.create(0));
        lastOperation("write(0, 1)", x -> x.write(0, 1));
        lastOperation("rebase(3, 0)", x -> x.rebase(3, 0));
        lastOperation("abandon(3)", x -> x.abandon(3));
        lastOperation("squash(3)", x -> x.squash(3));
        lastOperation("edit(2)", x -> x.edit(2));
        lastOperation("mark(2, 0)", x -> x.mark(2, 0));
        lastOperation("undo()", x -> x.undo());
        lastOperation("restore(0)", x -> x.restore(0));
        lastOperation("join()", x -> x.fork(1) ? x.join() : x.join());
    }

    /** The command makes operation 99, the 100th; where 99 is made already, it makes none. */
    private static void lastOperation(String what, ToLongFunction<ChangeStore> call) {
        ChangeStore x = chain(3);
        comeTo(x, 98);
        due(what + " at operation 98", call.applyAsLong(x), 99);
        due("operation()", x.operation(), 99);
        x = chain(3);
        comeTo(x, 99);
        due(what + " at operation 99", call.applyAsLong(x), FULL);
        due("working(100)", x.working(100), NONE);
        dueBefore(x, 100, NONE);
        dueCommit(x, 4, NONE, NONE);
    }

    private static void operationZero() {
        sentence("Terms", "Operation 0 has the view with the root alone, no marks (NONE), and the root as working commit");
        ChangeStore x = new ChangeStore();
        dueVisible(x, 0, 0);
        dueMarks(x, 0, NONE, NONE, NONE);
        due("working(0)", x.working(0), 0);
        dueHeads(x, 0, 0);
        dueBefore(x, 0, NONE);
        x.create(0);
        x.mark(1, 1);
        dueVisible(x, 0, 0);
        dueMarks(x, 0, NONE, NONE, NONE);
        due("working(0)", x.working(0), 0);
    }

    private static void linesAtFirst() {
        sentence("Terms", "There is LINE 0, and there may be LINE 1; each has a CURRENT operation (line 0 at first operation 0)");
        ChangeStore x = new ChangeStore();
        due("operation()", x.operation(), 0);
        due("choose(1)", x.choose(1), false);
        due("choose(0)", x.choose(0), true);
        due("operation()", x.operation(), 0);
        due("fork(0)", x.fork(0), true);
        due("create(0) in line 1", x.create(0), 1);
        due("choose(0)", x.choose(0), true);
        due("operation() of line 0", x.operation(), 0);
        due("choose(1)", x.choose(1), true);
        due("operation() of line 1", x.operation(), 1);
    }

    private static void onTheChosenLine() {
        sentence("Terms", "A COMMAND is carried out on the view of the current operation of the chosen line");
        ChangeStore x = chain(2);
        x.mark(0, 2);
        due("fork(1)", x.fork(1), true);
        due("edit(2), of line 0", x.edit(2), REFUSED);
        due("edit(1), working there", x.edit(1), UNCHANGED);
        due("mark(0, -1), NONE there", x.mark(0, -1), UNCHANGED);
        due("create(1)", x.create(1), 4);
        dueBefore(x, 4, 1);
        dueVisible(x, 4, 0, 1, 3);
        dueMarks(x, 4, NONE, NONE, NONE);
        due("choose(0)", x.choose(0), true);
        due("edit(3), of line 1", x.edit(3), REFUSED);
        due("mark(0, 2), as it is there", x.mark(0, 2), UNCHANGED);
        due("edit(2), working there", x.edit(2), UNCHANGED);
        due("edit(1)", x.edit(1), 5);
        dueBefore(x, 5, 3);
        dueVisible(x, 5, 0, 1, 2);
        dueMarks(x, 5, 2, NONE, NONE);
    }

    private static void firstBeforeIt() {
        sentence("Terms", "it makes an operation, whose first one before it is that one, with the view that results, and this is the line's current operation then");
        dueOnEachLine("create(c)", (x, c) -> x.create(c), 6, 0, 1, 2, OWN, 6);
        dueOnEachLine("write(1, 7)", (x, c) -> x.write(1, 7), 6, 0, 1, 2, 6);
        dueOnEachLine("rebase(c, 0)", (x, c) -> x.rebase(c, 0), 6, 0, 1, 2, 6);
        dueOnEachLine("abandon(c)", (x, c) -> x.abandon(c), 2, 0, 1, 2);
        dueOnEachLine("squash(c)", (x, c) -> x.squash(c), 6, 0, 1, 6);
        dueOnEachLine("edit(1)", (x, c) -> x.edit(1), 1, 0, 1, 2, OWN);
        dueOnEachLine("mark(2, c)", (x, c) -> x.mark(2, c), OWN, 0, 1, 2, OWN);
        dueOnEachLine("undo()", (x, c) -> x.undo(), 3, 0, 1, 2, 3);
        dueOnEachLine("restore(1)", (x, c) -> x.restore(1), 1, 0, 1);
    }

    /** Stands for the commit that the chosen line alone has: 5 in line 0, and 4 in line 1. */
    private static final int OWN = -100;

    private interface CallOnOwn {
        int on(ChangeStore x, int own);
    }

    private static void dueOnEachLine(String what, CallOnOwn call, int working, int... visible) {
        for (int line = 0; line <= 1; line++) {
            int own = 5 - line;
            ChangeStore x = apart();
            x.choose(1 - line);
            due("create(-1) in the other line", x.create(-1), REFUSED);
            x.choose(line);
            due(what + " in line " + line, call.on(x, own), 6);
            dueBefore(x, 6, 5 - line);
            due("operation() after " + what, x.operation(), 6);
            due("working(6) after " + what, x.working(6), working == OWN ? own : working);
            dueVisible(x, 6, Arrays.stream(visible).map(c -> c == OWN ? own : c).toArray());
            if (x.visible(6, 6)) {
                duePlain(x, 6, 0, 2 - line);
            }
            x.choose(1 - line);
            due("operation() of the other line after " + what, x.operation(), 4 + line);
        }
    }

    /** Line 0 comes to operation 5 with commit 5 on 2, line 1 to operation 4 with commit 4 on 2. */
    private static ChangeStore apart() {
        ChangeStore x = chain(3);
        due("fork(3)", x.fork(3), true);
        due("write(0, 1)", x.write(0, 1), 4);
        due("choose(0)", x.choose(0), true);
        due("write(0, 2)", x.write(0, 2), 5);
        return x;
    }

    private static void putInIfNotThere() {
        sentence("Terms", "TO REPLACE a commit c by a commit t in a view is to take c out of the visible ones and put t in (if it isn't there already)");
        ChangeStore x = chain(2);
        due("abandon(2), whose parent is there", x.abandon(2), 3);
        dueVisible(x, 3, 0, 1);
        dueHeads(x, 3, 1);
        due("abandon(1), whose parent is the root", x.abandon(1), 4);
        dueVisible(x, 4, 0);
        x = chain(2);
        due("write(0, 1), by one that is not there", x.write(0, 1), 3);
        dueVisible(x, 3, 0, 1, 3);
    }

    /** Commit 2 has the children 3 and 5, and 3 has 4; they are made anew by number, not by depth. */
    private static void lowestFirst() {
        sentence("Terms", "as long as a visible commit has a parent that is not visible, the lowest such commit y is replaced by a new commit with the change of y");
        ChangeStore x = chain(4);
        due("create(2)", x.create(2), 5);
        due("create(4)", x.create(4), 6);
        due("edit(2)", x.edit(2), 7);
        due("write(0, 1)", x.write(0, 1), 8);
        dueCommit(x, 7, 1, 2);
        dueCommit(x, 8, 7, 3);
        dueCommit(x, 9, 8, 4);
        dueCommit(x, 10, 7, 5);
        dueCommit(x, 11, 9, 6);
        dueCommit(x, 12, NONE, NONE);
        dueVisible(x, 8, 0, 1, 7, 8, 9, 10, 11);
    }

    private static void settledContents() {
        sentence("Terms", "whose content for each path is that of y + that of q - that of p");
        ChangeStore x = new ChangeStore();
        x.create(0);
        x.write(0, 1);
        x.create(2);
        x.write(0, 2);
        x.write(1, 3);
        due("edit(2)", x.edit(2), 6);
        due("write(0, 4)", x.write(0, 4), 7);
        dueCommit(x, 7, 6, 2);
        dueCounts(x, 7, 0, 0, -1, 1, 0, 1);
        duePlain(x, 7, 1, 3);
        duePlain(x, 7, 2, 0);
        due("write(3, 7)", x.write(3, 7), 8);
        dueCounts(x, 9, 0, 0, -1, 1, 0, 1);
        duePlain(x, 9, 3, 7);
        due("write(0, 2), which takes the conflict away", x.write(0, 2), 9);
        duePlain(x, 11, 0, 2);
    }

    private static void settledMarks() {
        sentence("Terms", "Then each mark that is a commit not visible, and the working commit if it is not visible, becomes the place of it");
        ChangeStore x = chain(3);
        x.mark(0, 3);
        x.mark(1, 1);
        x.edit(2);
        due("abandon(2)", x.abandon(2), 7);
        dueMarks(x, 7, 4, 1, NONE);
        due("working(7)", x.working(7), 1);
        due("abandon(1)", x.abandon(1), 8);
        dueMarks(x, 8, 5, 0, NONE);
        due("working(8)", x.working(8), 0);
        due("abandon(5)", x.abandon(5), 9);
        dueMarks(x, 9, 0, 0, NONE);
    }

    private static void disputedStays() {
        sentence("Terms", "each mark that is a commit not visible (neither NONE nor DISPUTED is one)");
        ChangeStore x = chain(1);
        due("fork(1)", x.fork(1), true);
        x.mark(0, 0);
        due("choose(0)", x.choose(0), true);
        x.mark(0, 1);
        due("join()", x.join(), 4);
        dueMarks(x, 4, DISPUTED, NONE, NONE);
        due("write(0, 1)", x.write(0, 1), 5);
        dueMarks(x, 5, DISPUTED, NONE, NONE);
        due("abandon(2)", x.abandon(2), 6);
        dueMarks(x, 6, DISPUTED, NONE, NONE);
    }

    private static void placeIsVisible() {
        sentence("Terms", "The place of a commit x is: x if it is visible");
        ChangeStore x = twins();
        x.mark(0, 2);
        due("edit(2)", x.edit(2), 6);
        due("create(3)", x.create(3), 7);
        due("rebase(3, 2)", x.rebase(3, 2), 8);
        // The mark stays at 2, though a later commit of its change is made.
        dueCommit(x, 5, 2, 1);
        dueMarks(x, 8, 2, NONE, NONE);
        due("working(8)", x.working(8), 6);
    }

    private static void placeOfReplaced() {
        sentence("Terms", "else, if x was replaced in this command (or join), the place of what it was replaced by");
        ChangeStore x = twins();
        x.mark(0, 2);
        due("edit(2)", x.edit(2), 6);
        due("create(2)", x.create(2), 7);
        due("edit(2)", x.edit(2), 8);
        due("abandon(2), with a twin of it there", x.abandon(2), 9);
        dueMarks(x, 9, 0, NONE, NONE);
        due("working(9)", x.working(9), 0);
        dueCommit(x, 5, 0, 2);
        replacedInJoin();
        replacedTwiceInJoin();
    }

    /** In the join 3 becomes 6, and so 4, whose parent was 3, and the mark on 3 follow it there. */
    private static void replacedInJoin() {
        ChangeStore x = chain(2);
        due("fork(2)", x.fork(2), true);
        due("abandon(1)", x.abandon(1), 3);
        due("choose(0)", x.choose(0), true);
        due("create(1)", x.create(1), 4);
        due("create(4)", x.create(4), 5);
        due("mark(2, 4)", x.mark(2, 4), 6);
        due("join()", x.join(), 7);
        dueCommit(x, 3, 0, 2);
        dueCommit(x, 6, 0, 3);
        dueCommit(x, 7, 6, 4);
        dueVisible(x, 7, 0, 3, 6, 7);
        dueMarks(x, 7, NONE, NONE, 6);
        due("working(7)", x.working(7), 7);
    }

    /** Change 1 goes onto 3 in line 0 and change 3 onto 1 in line 1; see the numbers for the way. */
    private static void replacedTwiceInJoin() {
        ChangeStore x = chain(1);
        due("create(0)", x.create(0), 2);
        x.mark(0, 1);
        x.mark(1, 2);
        due("fork(4)", x.fork(4), true);
        due("rebase(2, 1)", x.rebase(2, 1), 5);
        due("choose(0)", x.choose(0), true);
        due("rebase(1, 2)", x.rebase(1, 2), 6);
        dueCommit(x, 3, 1, 2);
        dueCommit(x, 4, 2, 1);
        due("join()", x.join(), 7);
        // 3 lost 1 and goes onto 4 as 5; then 4, that lost 2, finds only 5, which comes of 4, and so
        // goes onto the root as 6; then 5, that lost 4, follows what 4 was replaced by.
        dueCommit(x, 5, 4, 2);
        dueCommit(x, 6, 0, 1);
        dueCommit(x, 7, 6, 2);
        dueVisible(x, 7, 0, 6, 7);
        dueMarks(x, 7, 6, 7, NONE);
        due("working(7)", x.working(7), 7);
    }

    private static void placeByChange() {
        sentence("Terms", "else the visible commit with the change of x");
        ChangeStore x = chain(1);
        due("mark(0, 1)", x.mark(0, 1), 2);
        due("fork(2)", x.fork(2), true);
        due("write(0, 1)", x.write(0, 1), 3);
        due("mark(0, 0)", x.mark(0, 0), 4);
        due("choose(0)", x.choose(0), true);
        due("create(1)", x.create(1), 5);
        due("mark(1, 1)", x.mark(1, 1), 6);
        due("join()", x.join(), 7);
        dueCommit(x, 4, 2, 2);
        duePlain(x, 4, 0, 1);
        dueMarks(x, 7, 0, 2, NONE);
        dueVisible(x, 7, 0, 2, 4);
        commitOfLowerNumber();
    }

    /** Line 1 went back to commit 1, which line 0 replaced; so 5 on 4 goes back to 1 too. */
    private static void commitOfLowerNumber() {
        ChangeStore x = twins();
        due("rebase(3, 2)", x.rebase(3, 2), 5);
        due("fork(5)", x.fork(5), true);
        due("restore(1)", x.restore(1), 6);
        due("choose(0)", x.choose(0), true);
        due("create(4)", x.create(4), 7);
        due("join()", x.join(), 8);
        dueCommit(x, 5, 4, 2);
        dueCommit(x, 6, 1, 2);
        dueVisible(x, 8, 0, 1, 6);
    }

    private static void greatestOfSeveral() {
        sentence("Terms", "if there are several that with the greatest number");
        ChangeStore x = twins();
        dueVisible(x, 4, 0, 2, 3);
        due("fork(1)", x.fork(1), true);
        due("create(1)", x.create(1), 5);
        due("mark(0, 1)", x.mark(0, 1), 6);
        due("join()", x.join(), 7);
        dueCommit(x, 5, 3, 2);
        dueMarks(x, 7, 3, NONE, NONE);
        dueVisible(x, 7, 0, 2, 3, 5);
    }

    /** Line 0 puts change 1 onto change 2, and line 1 change 2 onto change 1. */
    private static void neitherYNorOfY() {
        sentence("Terms", "(while a y is being replaced only such a one as is neither y nor comes of y)");
        ChangeStore x = chain(1);
        due("create(0)", x.create(0), 2);
        due("fork(2)", x.fork(2), true);
        due("rebase(2, 1)", x.rebase(2, 1), 3);
        due("choose(0)", x.choose(0), true);
        due("rebase(1, 2)", x.rebase(1, 2), 4);
        due("join()", x.join(), 5);
        // When 4 is replaced, the visible commit of change 2 is 5, which comes of 4.
        dueCommit(x, 5, 4, 2);
        dueCommit(x, 6, 0, 1);
        due("visible(5, 5)", x.visible(5, 5), false);
        notYItself();
        notWhatComesOfY();
    }

    /** Commit 4 stands on 2, both with change 1: when 2 is lost, only 4 itself has its change. */
    private static void notYItself() {
        ChangeStore x = twins();
        due("fork(4)", x.fork(4), true);
        due("abandon(2)", x.abandon(2), 5);
        due("choose(0)", x.choose(0), true);
        due("rebase(3, 2)", x.rebase(3, 2), 6);
        dueCommit(x, 4, 2, 1);
        due("join()", x.join(), 7);
        dueCommit(x, 5, 0, 1);
        dueVisible(x, 7, 0, 5);
    }

    /** Commit 6 on 5 on 2, the first and the last with change 1: when 2 is lost, 6 comes of 5. */
    private static void notWhatComesOfY() {
        ChangeStore x = twins();
        due("create(0)", x.create(0), 5);
        due("fork(5)", x.fork(5), true);
        due("abandon(2)", x.abandon(2), 6);
        due("choose(0)", x.choose(0), true);
        due("rebase(4, 2)", x.rebase(4, 2), 7);
        dueCommit(x, 5, 2, 2);
        due("rebase(3, 5)", x.rebase(3, 5), 8);
        dueCommit(x, 6, 5, 1);
        due("join()", x.join(), 9);
        dueCommit(x, 7, 0, 2);
        dueCommit(x, 8, 7, 1);
        dueVisible(x, 9, 0, 7, 8);
    }

    private static void placeOfParent() {
        sentence("Terms", "else, if there is none, the place of the parent of x");
        ChangeStore x = chain(3);
        due("fork(3)", x.fork(3), true);
        due("abandon(3)", x.abandon(3), 4);
        due("abandon(2)", x.abandon(2), 5);
        due("choose(0)", x.choose(0), true);
        due("create(3)", x.create(3), 6);
        due("mark(0, 3)", x.mark(0, 3), 7);
        due("mark(1, 2)", x.mark(1, 2), 8);
        due("join()", x.join(), 9);
        dueCommit(x, 4, 3, 4);
        dueCommit(x, 5, 1, 4);
        dueMarks(x, 9, 1, 1, NONE);
        placeIsTheRoot();
    }

    private static void placeIsTheRoot() {
        ChangeStore x = chain(3);
        due("mark(0, 3)", x.mark(0, 3), 4);
        due("fork(4)", x.fork(4), true);
        due("restore(0)", x.restore(0), 5);
        due("choose(0)", x.choose(0), true);
        due("mark(1, 2)", x.mark(1, 2), 6);
        due("edit(1)", x.edit(1), 7);
        due("create(3)", x.create(3), 8);
        due("edit(3)", x.edit(3), 9);
        due("join()", x.join(), 10);
        dueCommit(x, 5, 0, 4);
        dueVisible(x, 10, 0, 5);
        dueMarks(x, 10, NONE, 0, NONE);
        due("working(10)", x.working(10), 0);
    }

    private static void comesOf() {
        sentence("Terms", "A commit COMES OF its parent, its parent's parent, and so on");
        ChangeStore x = chain(4);
        due("create(1)", x.create(1), 5);
        due("rebase(1, 2), its child", x.rebase(1, 2), REFUSED);
        due("rebase(1, 3), its child's child", x.rebase(1, 3), REFUSED);
        due("rebase(1, 4), and so on", x.rebase(1, 4), REFUSED);
        due("rebase(2, 5), which does not come of it", x.rebase(2, 5), 6);
        due("rebase(4, 0), of which it comes", x.rebase(4, 0), REFUSED);
        due("rebase(8, 1), of which it comes", x.rebase(8, 1), 7);
    }

    /** With room for neither a commit nor an operation, an earlier answer still goes first. */
    private static void orderOfRefusals() {
        sentence("Terms", "REFUSED (-1) as said; else UNCHANGED (-2) as said; else FULL (-3)");
        ChangeStore x = chain(59);
        comeTo(x, 99);
        due("create(60)", x.create(60), REFUSED);
        due("create(0)", x.create(0), FULL);
        due("write(4, 0)", x.write(4, 0), REFUSED);
        due("write(0, 8)", x.write(0, 8), REFUSED);
        due("write(0, 0)", x.write(0, 0), UNCHANGED);
        due("write(0, 1)", x.write(0, 1), FULL);
        due("rebase(0, 0)", x.rebase(0, 0), REFUSED);
        due("rebase(1, 2)", x.rebase(1, 2), REFUSED);
        due("rebase(2, 1)", x.rebase(2, 1), UNCHANGED);
        due("rebase(2, 0)", x.rebase(2, 0), FULL);
        due("abandon(0)", x.abandon(0), REFUSED);
        due("abandon(59)", x.abandon(59), FULL);
        due("squash(1)", x.squash(1), REFUSED);
        due("squash(2)", x.squash(2), FULL);
        due("edit(60)", x.edit(60), REFUSED);
        due("edit(1)", x.edit(1), UNCHANGED);
        due("edit(0)", x.edit(0), FULL);
        due("mark(3, -1)", x.mark(3, -1), REFUSED);
        due("mark(2, -1)", x.mark(2, -1), UNCHANGED);
        due("mark(2, 0)", x.mark(2, 0), FULL);
        due("restore(100)", x.restore(100), REFUSED);
        due("restore(99)", x.restore(99), FULL);
        due("undo()", x.undo(), FULL);
        due("join()", x.join(), REFUSED);
        due("fork(0), which makes no operation", x.fork(0), true);
        due("undo() at operation 0", x.undo(), REFUSED);
        due("join()", x.join(), FULL);
        due("choose(0), which makes no operation", x.choose(0), true);
        due("operation()", x.operation(), 99);
    }

    /** Write, edit and mark have both answers: what is wrong goes before what would change nothing. */
    private static void refusedBeforeUnchanged() {
        sentence("Terms", "REFUSED (-1) as said; else UNCHANGED (-2) as said (both could be said)");
        ChangeStore x = new ChangeStore();
        due("write(0, 0) on the root, which is plain with 0", x.write(0, 0), REFUSED);
        due("rebase(0, -1), the root's parent", x.rebase(0, -1), REFUSED);
        x.create(0);
        due("fork(1)", x.fork(1), true);
        x.mark(0, 0);
        due("choose(0)", x.choose(0), true);
        x.mark(0, 1);
        due("join()", x.join(), 4);
        due("mark(0, -2), which it is already", x.mark(0, DISPUTED), REFUSED);
        due("marked(4, 0)", x.marked(4, 0), DISPUTED);
    }

    private static void refusedChangesNothing() {
        sentence("Terms", "A refused call changes nothing, and no number is used up");
        Consumer<ChangeStore> run = x -> {
            x.create(0);
            x.write(0, 1);
            x.create(2);
        };
        dueNoTrace("create(1)", run, x -> x.create(1), REFUSED);
        dueNoTrace("write(4, 1)", run, x -> x.write(4, 1), REFUSED);
        dueNoTrace("write(1, 0)", run, x -> x.write(1, 0), UNCHANGED);
        dueNoTrace("fork(4)", run, x -> x.fork(4) ? 1 : 0, 0);
        ChangeStore x = after(run);
        x.create(1);
        x.write(4, 1);
        x.write(1, 0);
        due("create(3), after refused ones", x.create(3), 4);
        dueCommit(x, 4, 3, 3);
        dueCommit(x, 5, NONE, NONE);
    }

    /** A call that finds no room has made commits on the way; their numbers are given again. */
    private static void fullUsesUpNothing() {
        sentence("Terms", "A refused call changes nothing, and no number is used up (when FULL)");
        ChangeStore x = chain(30);
        x.mark(0, 30);
        x.edit(1);
        due("write(0, 1)", x.write(0, 1), FULL);
        due("abandon(1), that makes 29", x.abandon(1), 33);
        dueCommit(x, 31, 0, 2);
        dueCommit(x, 59, 58, 30);
        duePlain(x, 31, 0, 0);
        dueMarks(x, 33, 59, NONE, NONE);
        due("working(33)", x.working(33), 0);
        x = chain(57);
        due("rebase(55, 0)", x.rebase(55, 0), FULL);
        due("create(57)", x.create(57), 58);
        dueCommit(x, 58, 57, 58);
        due("visible(58, 55)", x.visible(58, 55), true);
    }

    public static void main(String[] args) {
        numbersOfCommits();
        atMost60ByCreate();
        atMost60ByReplacing();
        atMost60BySettling();
        atMost60ByJoin();
        endlessSettling();
        noneLostOrAltered();
        lowerParents();
        newChanges();
        plainRoot();
        sumOfCounts();
        exactCounts();
        plainOrConflict();
        justTwoCounts();
        justTwoGreaterCounts();
        viewHoldsTogether();
        marksOfView();
        workingIsVisible();
        numbersOfOperations();
        atMost100();
        operationZero();
        linesAtFirst();
        onTheChosenLine();
        firstBeforeIt();
        putInIfNotThere();
        lowestFirst();
        settledContents();
        settledMarks();
        disputedStays();
        placeIsVisible();
        placeOfReplaced();
        placeByChange();
        greatestOfSeveral();
        neitherYNorOfY();
        placeOfParent();
        comesOf();
        orderOfRefusals();
        refusedBeforeUnchanged();
        refusedChangesNothing();
        fullUsesUpNothing();
        end("TermsTest");
    }
}
