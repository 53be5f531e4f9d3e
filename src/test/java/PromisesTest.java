/** Each promise by hand: ordinary inputs, the edges that the document names, and wrong inputs. */
public final class PromisesTest extends Checks {
    private static void newObject() {
        promise(1);
        ChangeStore x = new ChangeStore();
        due("operation()", x.operation(), 0);
        due("before(0, 0)", x.before(0, 0), NONE);
        due("before(0, 1)", x.before(0, 1), NONE);
        dueVisible(x, 0, 0);
        due("working(0)", x.working(0), 0);
        for (int mark = 0; mark < 3; mark++) {
            due("marked(0, " + mark + ")", x.marked(0, mark), NONE);
        }
        dueCommit(x, 0, NONE, 0);
        dueCommit(x, 1, NONE, NONE);
        for (int path = 0; path < 4; path++) {
            dueCounts(x, 0, path, 1);
        }
        due("working(1)", x.working(1), NONE);
        due("choose(0)", x.choose(0), true);
        due("choose(1)", x.choose(1), false);
        due("join()", x.join(), REFUSED);
        ChangeStore other = new ChangeStore();
        other.create(0);
        due("operation() of another object", x.operation(), 0);
    }

    private static void create() {
        promise(2);
        ChangeStore x = new ChangeStore();
        due("create(0)", x.create(0), 1);
        dueCommit(x, 1, 0, 1);
        due("working(1)", x.working(1), 1);
        dueVisible(x, 1, 0, 1);
        dueBefore(x, 1, 0);
        due("write(3, 7)", x.write(3, 7), 2);
        for (int c : NO_INDEX) {
            due("create(" + c + ")", x.create(c), REFUSED);
        }
        due("create(1), replaced", x.create(1), REFUSED);
        due("create(3), not made", x.create(3), REFUSED);
        due("create(2)", x.create(2), 3);
        dueCommit(x, 3, 2, 2);
        dueCounts(x, 3, 3, 0, 0, 0, 0, 0, 0, 0, 1);
        dueCounts(x, 3, 0, 1);
        due("create(0)", x.create(0), 4);
        dueCommit(x, 4, 0, 3);
        due("working(4)", x.working(4), 4);
        dueVisible(x, 4, 0, 2, 3, 4);
        due("undo()", x.undo(), 5);
        due("create(0) after undo", x.create(0), 6);
        dueCommit(x, 5, 0, 4);
        dueVisible(x, 6, 0, 2, 3, 5);
        createWhenFull();
    }

    private static void createWhenFull() {
        ChangeStore x = chain(59);
        due("create(59), full", x.create(59), FULL);
        due("create(60), full", x.create(60), REFUSED);
        due("operation()", x.operation(), 59);
        dueCommit(x, 60, NONE, NONE);
        due("working(59)", x.working(59), 59);
        dueVisible(x, 60);
        due("edit(3)", x.edit(3), 60);
        x = outOfOperations();
        due("create(0), operations full", x.create(0), FULL);
        due("create(3), operations full", x.create(3), REFUSED);
        dueCommit(x, 3, NONE, NONE);
        due("operation()", x.operation(), 99);
    }

    private static void write() {
        promise(3);
        ChangeStore x = new ChangeStore();
        due("write(0, 1) on the root", x.write(0, 1), REFUSED);
        due("write(0, 0) on the root", x.write(0, 0), REFUSED);
        x.create(0);
        for (int i : NO_INDEX) {
            due("write(" + i + ", 1)", x.write(i, 1), REFUSED);
            due("write(0, " + i + ")", x.write(0, i), REFUSED);
        }
        due("write(4, 1)", x.write(4, 1), REFUSED);
        due("write(0, 8)", x.write(0, 8), REFUSED);
        due("write(4, 0)", x.write(4, 0), REFUSED);
        due("write(2, 0)", x.write(2, 0), UNCHANGED);
        due("operation()", x.operation(), 1);
        due("mark(1, 1)", x.mark(1, 1), 2);
        due("write(2, 7)", x.write(2, 7), 3);
        dueBefore(x, 3, 2);
        dueCommit(x, 2, 0, 1);
        dueCounts(x, 2, 2, 0, 0, 0, 0, 0, 0, 0, 1);
        dueCounts(x, 2, 3, 1);
        dueCounts(x, 1, 2, 1);
        dueVisible(x, 3, 0, 2);
        dueVisible(x, 2, 0, 1);
        due("working(3)", x.working(3), 2);
        due("marked(3, 1)", x.marked(3, 1), 2);
        due("marked(2, 1)", x.marked(2, 1), 1);
        due("write(2, 7)", x.write(2, 7), UNCHANGED);
        due("write(3, 0)", x.write(3, 0), UNCHANGED);
        due("write(2, 0)", x.write(2, 0), 4);
        dueCounts(x, 3, 2, 1);
        writeUnderChildren();
        writeOverConflict();
        writeWhenFull();
    }

    private static void writeUnderChildren() {
        ChangeStore x = chain(3);
        due("create(1)", x.create(1), 4);
        due("edit(1)", x.edit(1), 5);
        due("write(0, 5)", x.write(0, 5), 6);
        dueCommit(x, 5, 0, 1);
        dueCommit(x, 6, 5, 2);
        dueCommit(x, 7, 6, 3);
        dueCommit(x, 8, 5, 4);
        dueVisible(x, 6, 0, 5, 6, 7, 8);
        dueCounts(x, 7, 0, 0, 0, 0, 0, 0, 1);
        due("working(6)", x.working(6), 5);
    }

    /** A conflict with the count 1 for a value is not plain with it, so a write there is none that changes nothing. */
    private static void writeOverConflict() {
        ChangeStore x = conflict();
        dueCounts(x, 5, 0, -1, 1, 1);
        due("write(0, 1) over a conflict", x.write(0, 1), 6);
        dueCounts(x, 6, 0, 0, 1);
        due("write(0, 1)", x.write(0, 1), UNCHANGED);
    }

    private static void writeWhenFull() {
        ChangeStore x = chain(59);
        due("write(0, 1), full", x.write(0, 1), FULL);
        due("write(0, 0), full", x.write(0, 0), UNCHANGED);
        due("write(0, 9), full", x.write(0, 9), REFUSED);
        x = chain(30);
        due("edit(1)", x.edit(1), 31);
        due("write(0, 1), full by settling", x.write(0, 1), FULL);
        dueCommit(x, 31, NONE, NONE);
        dueCounts(x, 31, 0);
        due("operation()", x.operation(), 31);
        due("working(31)", x.working(31), 1);
        due("create(30)", x.create(30), 32);
        dueCommit(x, 31, 30, 31);
        x = chain(29);
        due("edit(1)", x.edit(1), 30);
        due("write(0, 1), just not full", x.write(0, 1), 31);
        dueCommit(x, 58, 57, 29);
        x = outOfOperations();
        due("write(0, 1), operations full", x.write(0, 1), FULL);
        due("write(0, 0), operations full", x.write(0, 0), UNCHANGED);
        dueCommit(x, 3, NONE, NONE);
    }

    private static void rebase() {
        promise(4);
        ChangeStore x = chain(3);
        due("create(0)", x.create(0), 4);
        for (int c : NO_INDEX) {
            due("rebase(" + c + ", 0)", x.rebase(c, 0), REFUSED);
            due("rebase(1, " + c + ")", x.rebase(1, c), REFUSED);
        }
        due("rebase(0, 4)", x.rebase(0, 4), REFUSED);
        due("rebase(1, 1)", x.rebase(1, 1), REFUSED);
        due("rebase(1, 2)", x.rebase(1, 2), REFUSED);
        due("rebase(1, 3)", x.rebase(1, 3), REFUSED);
        due("rebase(5, 0)", x.rebase(5, 0), REFUSED);
        due("rebase(1, 5)", x.rebase(1, 5), REFUSED);
        due("rebase(1, 0)", x.rebase(1, 0), UNCHANGED);
        due("rebase(3, 2)", x.rebase(3, 2), UNCHANGED);
        due("operation()", x.operation(), 4);
        due("rebase(2, 4)", x.rebase(2, 4), 5);
        dueBefore(x, 5, 4);
        dueCommit(x, 5, 4, 2);
        dueCommit(x, 6, 5, 3);
        dueVisible(x, 5, 0, 1, 4, 5, 6);
        due("working(5)", x.working(5), 4);
        due("rebase(2, 0), replaced", x.rebase(2, 0), REFUSED);
        due("rebase(4, 2), onto a replaced one", x.rebase(4, 2), REFUSED);
        due("rebase(4, 6), onto what comes of it", x.rebase(4, 6), REFUSED);
        rebasedContents();
        rebaseWhenFull();
    }

    private static void rebasedContents() {
        ChangeStore x = conflict();
        dueCommit(x, 5, 2, 2);
        dueCounts(x, 5, 0, -1, 1, 1);
        dueCounts(x, 5, 1, 1);
        due("working(5)", x.working(5), 5);
        due("create(5)", x.create(5), 6);
        dueCounts(x, 6, 0, -1, 1, 1);
        due("write(1, 4)", x.write(1, 4), 7);
        due("rebase(7, 0)", x.rebase(7, 0), 8);
        dueCounts(x, 8, 0, 1);
        dueCounts(x, 8, 1, 0, 0, 0, 0, 1);
        due("rebase(5, 0)", x.rebase(5, 0), 9);
        dueCounts(x, 9, 0, 0, 0, 1);
        sameValueTwice();
    }

    /** Both sides wrote 3 over 0: the counts 2 and -1 are just two, so the content is plain. */
    private static void sameValueTwice() {
        ChangeStore x = new ChangeStore();
        x.create(0);
        x.write(1, 3);
        x.create(0);
        x.write(1, 3);
        due("rebase(4, 2)", x.rebase(4, 2), 5);
        dueCounts(x, 5, 1, 0, 0, 0, 1);
        x = new ChangeStore();
        x.create(0);
        x.write(1, 3);
        x.create(2);
        x.write(1, 0);
        x.create(2);
        x.write(1, 0);
        due("rebase(6, 4)", x.rebase(6, 4), 7);
        dueCounts(x, 7, 1, 1);
    }

    private static void rebaseWhenFull() {
        ChangeStore x = chain(59);
        due("rebase(59, 0), full", x.rebase(59, 0), FULL);
        due("rebase(59, 58), full", x.rebase(59, 58), UNCHANGED);
        due("rebase(59, 60), full", x.rebase(59, 60), REFUSED);
        x = chain(57);
        due("rebase(55, 0), full by settling", x.rebase(55, 0), FULL);
        dueCommit(x, 58, NONE, NONE);
        dueVisible(x, 58);
        due("rebase(56, 0), just not full", x.rebase(56, 0), 58);
        dueCommit(x, 59, 58, 57);
        x = outOfOperations();
        due("rebase(2, 0), operations full", x.rebase(2, 0), FULL);
        due("rebase(2, 1), operations full", x.rebase(2, 1), UNCHANGED);
        due("rebase(2, 3), operations full", x.rebase(2, 3), REFUSED);
        dueCommit(x, 3, NONE, NONE);
    }

    private static void abandon() {
        promise(5);
        ChangeStore x = new ChangeStore();
        x.create(0);
        x.write(0, 1);
        x.create(2);
        x.write(1, 2);
        x.create(4);
        x.write(2, 3);
        due("mark(0, 4)", x.mark(0, 4), 7);
        due("edit(4)", x.edit(4), 8);
        for (int c : NO_INDEX) {
            due("abandon(" + c + ")", x.abandon(c), REFUSED);
        }
        due("abandon(0)", x.abandon(0), REFUSED);
        due("abandon(5), replaced", x.abandon(5), REFUSED);
        due("abandon(7), not made", x.abandon(7), REFUSED);
        due("abandon(4)", x.abandon(4), 9);
        dueBefore(x, 9, 8);
        dueVisible(x, 9, 0, 2, 7);
        dueCommit(x, 7, 2, 3);
        dueCounts(x, 7, 0, 0, 1);
        dueCounts(x, 7, 1, 1);
        dueCounts(x, 7, 2, 0, 0, 0, 1);
        due("working(9)", x.working(9), 2);
        due("marked(9, 0)", x.marked(9, 0), 2);
        due("abandon(4), again", x.abandon(4), REFUSED);
        due("abandon(7)", x.abandon(7), 10);
        dueCommit(x, 8, NONE, NONE);
        due("abandon(2)", x.abandon(2), 11);
        dueVisible(x, 11, 0);
        due("working(11)", x.working(11), 0);
        due("marked(11, 0)", x.marked(11, 0), 0);
        x = chain(59);
        due("abandon(58), full by settling", x.abandon(58), FULL);
        dueVisible(x, 60);
        due("abandon(59), which needs no commit", x.abandon(59), 60);
        due("working(60)", x.working(60), 58);
        x = outOfOperations();
        due("abandon(1), operations full", x.abandon(1), FULL);
        due("abandon(0), operations full", x.abandon(0), REFUSED);
        dueCommit(x, 3, NONE, NONE);
        abandonOneOfTwins();
    }

    /** What a commit was replaced by goes before another visible commit of its change. */
    private static void abandonOneOfTwins() {
        ChangeStore x = twins();
        due("create(2)", x.create(2), 5);
        due("mark(0, 2)", x.mark(0, 2), 6);
        due("edit(2)", x.edit(2), 7);
        due("abandon(2)", x.abandon(2), 8);
        dueCommit(x, 5, 0, 2);
        dueVisible(x, 8, 0, 3, 5);
        due("marked(8, 0)", x.marked(8, 0), 0);
        due("working(8)", x.working(8), 0);
    }

    private static void squash() {
        promise(6);
        ChangeStore x = new ChangeStore();
        x.create(0);
        x.write(0, 1);
        x.create(2);
        x.write(0, 2);
        x.create(4);
        x.write(1, 3);
        x.create(2);
        due("mark(0, 2)", x.mark(0, 2), 8);
        due("mark(1, 4)", x.mark(1, 4), 9);
        for (int c : NO_INDEX) {
            due("squash(" + c + ")", x.squash(c), REFUSED);
        }
        due("squash(0)", x.squash(0), REFUSED);
        due("squash(2), on the root", x.squash(2), REFUSED);
        due("squash(3), replaced", x.squash(3), REFUSED);
        due("squash(8), not made", x.squash(8), REFUSED);
        due("squash(4)", x.squash(4), 10);
        dueBefore(x, 10, 9);
        dueCommit(x, 8, 0, 1);
        dueCounts(x, 8, 0, 0, 0, 1);
        dueCommit(x, 9, 8, 3);
        dueCounts(x, 9, 0, 0, 0, 1);
        dueCounts(x, 9, 1, 0, 0, 0, 1);
        dueCommit(x, 10, 8, 4);
        dueCounts(x, 10, 0, 0, 0, 1);
        dueVisible(x, 10, 0, 8, 9, 10);
        due("marked(10, 0)", x.marked(10, 0), 8);
        due("marked(10, 1)", x.marked(10, 1), 8);
        due("working(10)", x.working(10), 10);
        due("squash(8), on the root", x.squash(8), REFUSED);
        due("squash(9)", x.squash(9), 11);
        dueCommit(x, 11, 0, 1);
        dueCommit(x, 12, 11, 4);
        squashHigher();
    }

    private static void squashHigher() {
        ChangeStore x = chain(3);
        due("squash(3)", x.squash(3), 4);
        dueCommit(x, 4, 1, 2);
        dueVisible(x, 4, 0, 1, 4);
        due("working(4)", x.working(4), 4);
        x = chain(59);
        due("squash(59), full", x.squash(59), FULL);
        due("squash(1), full", x.squash(1), REFUSED);
        x = chain(57);
        due("squash(55), full by settling", x.squash(55), FULL);
        dueCommit(x, 58, NONE, NONE);
        due("squash(56), just not full", x.squash(56), 58);
        dueCommit(x, 58, 54, 55);
        dueCommit(x, 59, 58, 57);
        x = outOfOperations();
        due("squash(2), operations full", x.squash(2), FULL);
        due("squash(1), operations full", x.squash(1), REFUSED);
        dueCommit(x, 3, NONE, NONE);
    }

    private static void edit() {
        promise(7);
        ChangeStore x = chain(2);
        due("mark(0, 2)", x.mark(0, 2), 3);
        for (int c : NO_INDEX) {
            due("edit(" + c + ")", x.edit(c), REFUSED);
        }
        due("edit(3)", x.edit(3), REFUSED);
        due("edit(2)", x.edit(2), UNCHANGED);
        due("operation()", x.operation(), 3);
        due("edit(1)", x.edit(1), 4);
        dueBefore(x, 4, 3);
        due("working(4)", x.working(4), 1);
        due("working(3)", x.working(3), 2);
        due("marked(4, 0)", x.marked(4, 0), 2);
        dueVisible(x, 4, 0, 1, 2);
        due("edit(0)", x.edit(0), 5);
        due("working(5)", x.working(5), 0);
        due("edit(0)", x.edit(0), UNCHANGED);
        due("abandon(2)", x.abandon(2), 6);
        due("edit(2), not visible", x.edit(2), REFUSED);
        x = outOfOperations();
        due("edit(0), operations full", x.edit(0), FULL);
        due("edit(1), operations full", x.edit(1), UNCHANGED);
        due("edit(3), operations full", x.edit(3), REFUSED);
        due("working(99)", x.working(99), 1);
        due("working(100)", x.working(100), NONE);
    }

    private static void mark() {
        promise(8);
        ChangeStore x = chain(2);
        for (int i : NO_INDEX) {
            due("mark(" + i + ", 1)", x.mark(i, 1), REFUSED);
            if (i != NONE) {
                due("mark(0, " + i + ")", x.mark(0, i), REFUSED);
            }
        }
        due("mark(3, 1)", x.mark(3, 1), REFUSED);
        due("mark(3, -1)", x.mark(3, -1), REFUSED);
        due("mark(0, 3)", x.mark(0, 3), REFUSED);
        due("mark(0, -1)", x.mark(0, -1), UNCHANGED);
        due("mark(0, 2)", x.mark(0, 2), 3);
        due("mark(1, 0)", x.mark(1, 0), 4);
        due("mark(2, 1)", x.mark(2, 1), 5);
        due("marked(5, 0)", x.marked(5, 0), 2);
        due("marked(5, 1)", x.marked(5, 1), 0);
        due("marked(5, 2)", x.marked(5, 2), 1);
        due("marked(3, 2)", x.marked(3, 2), NONE);
        due("mark(0, 2)", x.mark(0, 2), UNCHANGED);
        due("mark(0, 1)", x.mark(0, 1), 6);
        dueBefore(x, 6, 5);
        due("marked(6, 0)", x.marked(6, 0), 1);
        due("working(6)", x.working(6), 2);
        dueVisible(x, 6, 0, 1, 2);
        due("mark(0, -1)", x.mark(0, -1), 7);
        due("marked(7, 0)", x.marked(7, 0), NONE);
        due("mark(0, -1)", x.mark(0, -1), UNCHANGED);
        due("abandon(2)", x.abandon(2), 8);
        due("mark(0, 2), not visible", x.mark(0, 2), REFUSED);
        x = outOfOperations();
        due("mark(0, 1), operations full", x.mark(0, 1), FULL);
        due("mark(0, -1), operations full", x.mark(0, -1), UNCHANGED);
        due("mark(3, 1), operations full", x.mark(3, 1), REFUSED);
        due("marked(99, 0)", x.marked(99, 0), NONE);
    }

    private static void undo() {
        promise(9);
        ChangeStore x = new ChangeStore();
        due("undo()", x.undo(), REFUSED);
        due("operation()", x.operation(), 0);
        x.create(0);
        x.write(0, 4);
        due("mark(2, 2)", x.mark(2, 2), 3);
        due("undo()", x.undo(), 4);
        due("marked(4, 2)", x.marked(4, 2), NONE);
        due("working(4)", x.working(4), 2);
        dueBefore(x, 4, 3);
        due("undo() of undo()", x.undo(), 5);
        due("marked(5, 2)", x.marked(5, 2), 2);
        dueBefore(x, 5, 4);
        due("restore(1)", x.restore(1), 6);
        dueVisible(x, 6, 0, 1);
        due("undo() of restore()", x.undo(), 7);
        dueVisible(x, 7, 0, 2);
        due("fork(0)", x.fork(0), true);
        due("undo() on line 1 at operation 0", x.undo(), REFUSED);
        due("join()", x.join(), 8);
        due("undo() of join()", x.undo(), REFUSED);
        due("edit(0)", x.edit(0), 9);
        due("undo() after a join", x.undo(), 10);
        due("working(10)", x.working(10), 2);
        due("fork(8)", x.fork(8), true);
        due("undo() on line 1 at a join", x.undo(), REFUSED);
        x = outOfOperations();
        due("undo(), operations full", x.undo(), FULL);
        due("operation()", x.operation(), 99);
    }

    private static void restore() {
        promise(10);
        ChangeStore x = chain(2);
        due("mark(1, 2)", x.mark(1, 2), 3);
        due("abandon(2)", x.abandon(2), 4);
        for (int operation : NO_INDEX) {
            due("restore(" + operation + ")", x.restore(operation), REFUSED);
        }
        due("restore(5)", x.restore(5), REFUSED);
        due("operation()", x.operation(), 4);
        due("restore(3)", x.restore(3), 5);
        dueVisible(x, 5, 0, 1, 2);
        due("marked(5, 1)", x.marked(5, 1), 2);
        due("working(5)", x.working(5), 2);
        dueBefore(x, 5, 4);
        due("restore(0)", x.restore(0), 6);
        dueVisible(x, 6, 0);
        due("working(6)", x.working(6), 0);
        due("restore(6), the current one", x.restore(6), 7);
        due("create(0)", x.create(0), 8);
        dueCommit(x, 3, 0, 3);
        due("fork(6)", x.fork(6), true);
        due("restore(8), of the other line", x.restore(8), 9);
        dueVisible(x, 9, 0, 3);
        due("before(9, 0)", x.before(9, 0), 6);
        x = outOfOperations();
        due("restore(0), operations full", x.restore(0), FULL);
        due("restore(100), operations full", x.restore(100), REFUSED);
    }

    private static void fork() {
        promise(11);
        ChangeStore x = chain(2);
        for (int operation : NO_INDEX) {
            due("fork(" + operation + ")", x.fork(operation), false);
        }
        due("fork(3)", x.fork(3), false);
        due("choose(1)", x.choose(1), false);
        due("fork(1)", x.fork(1), true);
        due("operation()", x.operation(), 1);
        due("fork(1), again", x.fork(1), false);
        due("edit(0)", x.edit(0), 3);
        due("before(3, 0)", x.before(3, 0), 1);
        dueVisible(x, 3, 0, 1);
        due("choose(0)", x.choose(0), true);
        due("fork(0), with line 0 chosen", x.fork(0), false);
        due("operation()", x.operation(), 2);
        due("join()", x.join(), 4);
        due("fork(4)", x.fork(4), true);
        due("operation()", x.operation(), 4);
    }

    private static void choose() {
        promise(12);
        ChangeStore x = chain(1);
        for (int line : NO_INDEX) {
            due("choose(" + line + ")", x.choose(line), false);
        }
        due("choose(1)", x.choose(1), false);
        due("choose(0)", x.choose(0), true);
        due("fork(0)", x.fork(0), true);
        due("choose(2)", x.choose(2), false);
        due("choose(-1)", x.choose(-1), false);
        due("operation()", x.operation(), 0);
        due("create(0)", x.create(0), 2);
        due("choose(0)", x.choose(0), true);
        due("operation()", x.operation(), 1);
        due("create(2), of the other line", x.create(2), REFUSED);
        due("create(1)", x.create(1), 3);
        due("choose(1)", x.choose(1), true);
        due("operation()", x.operation(), 2);
        due("choose(1)", x.choose(1), true);
        due("edit(3), of the other line", x.edit(3), REFUSED);
        due("join()", x.join(), 4);
        due("choose(1)", x.choose(1), false);
        due("operation()", x.operation(), 4);
    }

    private static void join() {
        promise(13);
        joinOfVisible();
        joinOfMarks();
        joinOfWorking();
        joinByTwins();
        joinOnParent();
        joinPastOwnChildren();
        joinWhenFull();
    }

    private static void joinOfVisible() {
        ChangeStore x = new ChangeStore();
        due("join()", x.join(), REFUSED);
        x.create(0);
        x.create(0);
        x.create(0);
        due("fork(3)", x.fork(3), true);
        due("abandon(1)", x.abandon(1), 4);
        due("create(0)", x.create(0), 5);
        due("choose(0)", x.choose(0), true);
        due("abandon(2)", x.abandon(2), 6);
        due("create(0)", x.create(0), 7);
        due("choose(1)", x.choose(1), true);
        due("join() with line 1 chosen", x.join(), 8);
        dueVisible(x, 8, 0, 3, 4, 5);
        due("before(8, 0)", x.before(8, 0), 7);
        due("before(8, 1)", x.before(8, 1), 5);
        due("operation()", x.operation(), 8);
        due("join(), again", x.join(), REFUSED);
        due("choose(1)", x.choose(1), false);
        due("fork(8)", x.fork(8), true);
        due("join() at once", x.join(), 9);
        due("before(9, 0)", x.before(9, 0), 8);
        due("before(9, 1)", x.before(9, 1), 8);
        dueVisible(x, 9, 0, 3, 4, 5);
        joinFromElsewhere();
    }

    /** Line 1 begins before line 0's first commit, and so has none to take out of it. */
    private static void joinFromElsewhere() {
        ChangeStore x = chain(2);
        due("fork(1)", x.fork(1), true);
        due("abandon(1)", x.abandon(1), 3);
        due("join()", x.join(), 4);
        dueVisible(x, 4, 0, 3);
        dueCommit(x, 3, 0, 2);
        due("working(4)", x.working(4), 3);
    }

    private static void joinOfMarks() {
        ChangeStore x = chain(3);
        x.mark(0, 1);
        x.mark(1, 1);
        x.mark(2, 1);
        due("fork(6)", x.fork(6), true);
        due("mark(0, 2)", x.mark(0, 2), 7);
        due("mark(1, 2)", x.mark(1, 2), 8);
        due("choose(0)", x.choose(0), true);
        due("mark(1, 3)", x.mark(1, 3), 9);
        due("mark(2, 3)", x.mark(2, 3), 10);
        due("join()", x.join(), 11);
        due("marked(11, 0), changed in B", x.marked(11, 0), 2);
        due("marked(11, 1), changed in both", x.marked(11, 1), DISPUTED);
        due("marked(11, 2), changed in A", x.marked(11, 2), 3);
        due("mark(1, -2)", x.mark(1, -2), REFUSED);
        due("fork(11)", x.fork(11), true);
        due("mark(0, -1)", x.mark(0, -1), 12);
        due("mark(2, -1)", x.mark(2, -1), 13);
        due("choose(0)", x.choose(0), true);
        due("mark(2, -1)", x.mark(2, -1), 14);
        due("join()", x.join(), 15);
        due("marked(15, 0), NONE in B", x.marked(15, 0), NONE);
        due("marked(15, 1), still disputed", x.marked(15, 1), DISPUTED);
        due("marked(15, 2), the same in both", x.marked(15, 2), NONE);
        due("write(0, 1)", x.write(0, 1), 16);
        due("marked(16, 1), still disputed", x.marked(16, 1), DISPUTED);
        due("mark(1, -1)", x.mark(1, -1), 17);
        due("marked(17, 1)", x.marked(17, 1), NONE);
    }

    private static void joinOfWorking() {
        ChangeStore x = chain(3);
        due("fork(3)", x.fork(3), true);
        due("edit(1)", x.edit(1), 4);
        due("join()", x.join(), 5);
        due("working(5), changed in B", x.working(5), 1);
        due("fork(5)", x.fork(5), true);
        due("edit(2)", x.edit(2), 6);
        due("choose(0)", x.choose(0), true);
        due("edit(3)", x.edit(3), 7);
        due("join()", x.join(), 8);
        due("working(8), changed in both", x.working(8), 3);
        due("fork(8)", x.fork(8), true);
        due("choose(0)", x.choose(0), true);
        due("edit(0)", x.edit(0), 9);
        due("join()", x.join(), 10);
        due("working(10), changed in A", x.working(10), 0);
    }

    /** Both lines replace commit 1; what comes of it goes onto the twin with the greatest number. */
    private static void joinByTwins() {
        ChangeStore x = chain(2);
        due("mark(0, 1)", x.mark(0, 1), 3);
        due("fork(3)", x.fork(3), true);
        due("edit(1)", x.edit(1), 4);
        due("write(0, 6)", x.write(0, 6), 5);
        dueCommit(x, 3, 0, 1);
        dueCommit(x, 4, 3, 2);
        due("choose(0)", x.choose(0), true);
        due("create(1)", x.create(1), 6);
        dueCommit(x, 5, 1, 3);
        due("create(0)", x.create(0), 7);
        due("rebase(1, 6)", x.rebase(1, 6), 8);
        dueCommit(x, 7, 6, 1);
        dueCommit(x, 8, 7, 2);
        dueCommit(x, 9, 7, 3);
        due("restore(6)", x.restore(6), 9);
        due("join()", x.join(), 10);
        dueCommit(x, 10, 3, 3);
        dueVisible(x, 10, 0, 3, 4, 10);
        dueCounts(x, 10, 0, 0, 0, 0, 0, 0, 0, 1);
        due("marked(10, 0)", x.marked(10, 0), 3);
        due("working(10)", x.working(10), 10);
        twinWithGreatestNumber();
    }

    private static void twinWithGreatestNumber() {
        ChangeStore x = twins();
        dueVisible(x, 4, 0, 2, 3);
        due("working(4)", x.working(4), 3);
        due("fork(1)", x.fork(1), true);
        due("mark(2, 1)", x.mark(2, 1), 5);
        due("create(1)", x.create(1), 6);
        due("join()", x.join(), 7);
        dueCommit(x, 5, 3, 2);
        dueCounts(x, 5, 0, 0, 0, 1);
        dueVisible(x, 7, 0, 2, 3, 5);
        due("marked(7, 2)", x.marked(7, 2), 3);
    }

    /** Line 1 abandons the commit that line 0 builds on, so its parent stands in. */
    private static void joinOnParent() {
        ChangeStore x = chain(2);
        x.write(0, 5);
        due("fork(3)", x.fork(3), true);
        due("abandon(3)", x.abandon(3), 4);
        due("choose(0)", x.choose(0), true);
        due("create(3)", x.create(3), 5);
        due("mark(0, 3)", x.mark(0, 3), 6);
        due("edit(3)", x.edit(3), 7);
        due("mark(1, 4)", x.mark(1, 4), 8);
        due("edit(1)", x.edit(1), 9);
        due("edit(3)", x.edit(3), 10);
        due("join()", x.join(), 11);
        dueCommit(x, 5, 1, 3);
        dueCounts(x, 5, 0, 1);
        dueVisible(x, 11, 0, 1, 5);
        due("marked(11, 0)", x.marked(11, 0), 1);
        due("marked(11, 1)", x.marked(11, 1), 5);
        due("working(11)", x.working(11), 1);
    }

    /**
     * Line 0 puts change 1 onto change 3, and line 1 change 3 onto change 1. The one that is settled
     * last finds only a twin of its parent that comes of itself: the parent's parent stands in.
     */
    private static void joinPastOwnChildren() {
        ChangeStore x = chain(2);
        due("create(0)", x.create(0), 3);
        due("fork(3)", x.fork(3), true);
        due("rebase(3, 1)", x.rebase(3, 1), 4);
        dueCommit(x, 4, 1, 3);
        due("rebase(2, 4)", x.rebase(2, 4), 5);
        dueCommit(x, 5, 4, 2);
        due("choose(0)", x.choose(0), true);
        due("rebase(1, 3)", x.rebase(1, 3), 6);
        dueCommit(x, 6, 3, 1);
        dueCommit(x, 7, 6, 2);
        due("join()", x.join(), 7);
        // Visible at first are 0, 4, 5, 6 and 7. Commit 4 lost its parent 1; the twin of that, 6, is
        // no child of 4, so 4 becomes 8 on 6; then 5 becomes 9 on 8; then 6, whose parent 3 was
        // rebased in line 1 and has the twin 8, which comes of 6, goes onto the root as 10.
        dueCommit(x, 8, 6, 3);
        dueCommit(x, 9, 8, 2);
        dueCommit(x, 10, 0, 1);
        dueCommit(x, 11, 10, 2);
        dueCommit(x, 12, 10, 3);
        dueCommit(x, 13, 12, 2);
        dueVisible(x, 7, 0, 10, 11, 12, 13);
        due("head(7, 0)", x.head(7, 0), 11);
        due("head(7, 1)", x.head(7, 1), 13);
    }

    private static void joinWhenFull() {
        ChangeStore x = outOfOperations();
        due("fork(50)", x.fork(50), true);
        due("join(), operations full", x.join(), FULL);
        due("operation(), still of line 1", x.operation(), 50);
        due("choose(1), still there", x.choose(1), true);
        due("fork(0)", x.fork(0), false);
        x = chain(30);
        due("fork(30)", x.fork(30), true);
        due("edit(2)", x.edit(2), 31);
        due("write(0, 1), just not full", x.write(0, 1), 32);
        dueCommit(x, 59, 58, 30);
        due("choose(0)", x.choose(0), true);
        due("restore(1)", x.restore(1), 33);
        due("abandon(1)", x.abandon(1), 34);
        due("choose(1)", x.choose(1), true);
        due("join(), full by settling", x.join(), FULL);
        dueCommit(x, 60, NONE, NONE);
        due("operation()", x.operation(), 32);
        due("choose(0)", x.choose(0), true);
        due("operation()", x.operation(), 34);
        due("restore(32)", x.restore(32), 35);
        due("join(), which needs no commit", x.join(), 36);
    }

    private static void operation() {
        promise(14);
        ChangeStore x = chain(2);
        due("operation()", x.operation(), 2);
        due("create(9)", x.create(9), REFUSED);
        due("operation() after a refusal", x.operation(), 2);
        due("edit(2)", x.edit(2), UNCHANGED);
        due("operation() after no change", x.operation(), 2);
        due("fork(1)", x.fork(1), true);
        due("operation() of line 1", x.operation(), 1);
        due("edit(0)", x.edit(0), 3);
        due("operation() of line 1", x.operation(), 3);
        due("choose(0)", x.choose(0), true);
        due("operation() of line 0", x.operation(), 2);
        due("join()", x.join(), 4);
        due("operation() after a join", x.operation(), 4);
    }

    private static void before() {
        promise(15);
        ChangeStore x = chain(1);
        due("fork(0)", x.fork(0), true);
        due("create(0)", x.create(0), 2);
        due("create(2)", x.create(2), 3);
        due("join()", x.join(), 4);
        due("before(1, 0)", x.before(1, 0), 0);
        due("before(1, 1)", x.before(1, 1), NONE);
        due("before(2, 0)", x.before(2, 0), 0);
        due("before(3, 0)", x.before(3, 0), 2);
        due("before(4, 0)", x.before(4, 0), 1);
        due("before(4, 1)", x.before(4, 1), 3);
        due("before(0, 0)", x.before(0, 0), NONE);
        due("before(5, 0)", x.before(5, 0), NONE);
        due("before(5, 1)", x.before(5, 1), NONE);
        due("before(4, 2)", x.before(4, 2), NONE);
        for (int i : NO_INDEX) {
            due("before(4, " + i + ")", x.before(4, i), NONE);
            due("before(" + i + ", 0)", x.before(i, 0), NONE);
            due("before(" + i + ", 1)", x.before(i, 1), NONE);
        }
    }

    private static void visible() {
        promise(16);
        ChangeStore x = chain(2);
        due("abandon(2)", x.abandon(2), 3);
        dueVisible(x, 0, 0);
        dueVisible(x, 1, 0, 1);
        dueVisible(x, 2, 0, 1, 2);
        dueVisible(x, 3, 0, 1);
        dueVisible(x, 4);
        for (int i : NO_INDEX) {
            due("visible(3, " + i + ")", x.visible(3, i), false);
            due("visible(" + i + ", 0)", x.visible(i, 0), false);
        }
        x = chain(59);
        due("visible(59, 59)", x.visible(59, 59), true);
        due("visible(58, 59)", x.visible(58, 59), false);
        due("visible(59, 60)", x.visible(59, 60), false);
        due("visible(59, 33)", x.visible(59, 33), true);
        due("visible(32, 33)", x.visible(32, 33), false);
    }

    private static void working() {
        promise(17);
        ChangeStore x = chain(2);
        due("edit(1)", x.edit(1), 3);
        due("working(0)", x.working(0), 0);
        due("working(1)", x.working(1), 1);
        due("working(2)", x.working(2), 2);
        due("working(3)", x.working(3), 1);
        due("working(4)", x.working(4), NONE);
        for (int i : NO_INDEX) {
            due("working(" + i + ")", x.working(i), NONE);
        }
    }

    private static void marked() {
        promise(18);
        ChangeStore x = chain(1);
        x.mark(0, 1);
        x.mark(1, 0);
        x.mark(2, 1);
        due("marked(4, 0)", x.marked(4, 0), 1);
        due("marked(4, 1)", x.marked(4, 1), 0);
        due("marked(4, 2)", x.marked(4, 2), 1);
        due("marked(3, 1)", x.marked(3, 1), 0);
        due("marked(3, 2)", x.marked(3, 2), NONE);
        due("marked(4, 3)", x.marked(4, 3), NONE);
        due("marked(3, 3)", x.marked(3, 3), NONE);
        due("marked(5, 0)", x.marked(5, 0), NONE);
        due("marked(3, -1)", x.marked(3, -1), NONE);
        for (int i : NO_INDEX) {
            due("marked(4, " + i + ")", x.marked(4, i), NONE);
            due("marked(" + i + ", 0)", x.marked(i, 0), NONE);
        }
    }

    private static void head() {
        promise(19);
        ChangeStore x = chain(2);
        due("create(0)", x.create(0), 3);
        due("create(1)", x.create(1), 4);
        due("head(0, 0)", x.head(0, 0), 0);
        due("head(0, 1)", x.head(0, 1), NONE);
        due("head(2, 0)", x.head(2, 0), 2);
        due("head(2, 1)", x.head(2, 1), NONE);
        due("head(4, 0)", x.head(4, 0), 2);
        due("head(4, 1)", x.head(4, 1), 3);
        due("head(4, 2)", x.head(4, 2), 4);
        due("head(4, 3)", x.head(4, 3), NONE);
        due("head(5, 0)", x.head(5, 0), NONE);
        for (int i : NO_INDEX) {
            due("head(4, " + i + ")", x.head(4, i), NONE);
            due("head(" + i + ", 0)", x.head(i, 0), NONE);
        }
        due("abandon(2)", x.abandon(2), 5);
        due("abandon(4)", x.abandon(4), 6);
        due("head(6, 0), whose child is not visible", x.head(6, 0), 1);
        due("head(6, 1)", x.head(6, 1), 3);
        x = new ChangeStore();
        for (int c = 1; c < 60; c++) {
            x.create(0);
        }
        due("head(59, 0)", x.head(59, 0), 1);
        due("head(59, 58)", x.head(59, 58), 59);
        due("head(59, 59)", x.head(59, 59), NONE);
    }

    private static void commit() {
        promise(20);
        ChangeStore x = chain(2);
        due("write(0, 1)", x.write(0, 1), 3);
        dueCommit(x, 0, NONE, 0);
        dueCommit(x, 1, 0, 1);
        dueCommit(x, 2, 1, 2);
        dueCommit(x, 3, 1, 2);
        dueCommit(x, 4, NONE, NONE);
        due("commit(3, 2)", x.commit(3, 2), NONE);
        for (int i : NO_INDEX) {
            due("commit(3, " + i + ")", x.commit(3, i), NONE);
            due("commit(" + i + ", 0)", x.commit(i, 0), NONE);
            due("commit(" + i + ", 1)", x.commit(i, 1), NONE);
        }
    }

    private static void count() {
        promise(21);
        ChangeStore x = conflict();
        dueCounts(x, 0, 0, 1);
        dueCounts(x, 2, 0, 0, 1);
        dueCounts(x, 4, 0, 0, 0, 1);
        dueCounts(x, 5, 0, -1, 1, 1);
        dueCounts(x, 5, 3, 1);
        dueCounts(x, 6, 0);
        due("count(5, 4, 0)", x.count(5, 4, 0), 0);
        due("count(4, 4, 0)", x.count(4, 4, 0), 0);
        due("count(5, 0, 8)", x.count(5, 0, 8), 0);
        due("count(5, 1, -8)", x.count(5, 1, -8), 0);
        for (int i : NO_INDEX) {
            due("count(" + i + ", 0, 0)", x.count(i, 0, 0), 0);
            due("count(5, " + i + ", 0)", x.count(5, i, 0), 0);
            due("count(5, 0, " + i + ")", x.count(5, 0, i), 0);
        }
        growingCounts();
    }

    /** Three commits of the same value over 0 beside one of another: the counts go past 1. */
    private static void growingCounts() {
        ChangeStore x = conflict();
        x.create(0);
        x.write(0, 2);
        due("rebase(7, 5)", x.rebase(7, 5), 8);
        dueCounts(x, 8, 0, -2, 1, 2);
        x.create(0);
        x.write(0, 2);
        due("rebase(10, 8)", x.rebase(10, 8), 11);
        dueCounts(x, 11, 0, -3, 1, 3);
        due("create(11)", x.create(11), 12);
        dueCounts(x, 12, 0, -3, 1, 3);
    }

    public static void main(String[] args) {
        newObject();
        create();
        write();
        rebase();
        abandon();
        squash();
        edit();
        mark();
        undo();
        restore();
        fork();
        choose();
        join();
        operation();
        before();
        visible();
        working();
        marked();
        head();
        commit();
        count();
        end("PromisesTest");
    }
}
