import java.math.BigInteger;
import java.util.ArrayList;
import java.util.List;
import java.util.TreeSet;

/**
 * Compares ChangeStore with a slow model that follows the document's words one by one, over many
 * runs of calls that are drawn by a fixed rule, so that every time the same runs are made.
 */
public final class ModelTest {
    private static final int RUNS = 8000;
    private static final int MOST_CALLS = 512;
    private static final int SHOWN_FAULTS = 20;

    /** Of 100 draws, below which each command is drawn; join seldom, so that the lines go apart. */
    private static final int[] LIVELY = {12, 30, 46, 50, 54, 64, 72, 74, 78, 83, 89, 100};
    /** Mostly commands that make no commits, so that the operations run out before them. */
    private static final int[] SPARING = {3, 7, 8, 9, 10, 35, 60, 68, 86, 90, 94, 100};

    private static int wrong = 0;
    private static final int[] reached = new int[Reach.values().length];

    /** What the runs must come to at least once, lest they prove too little. */
    private enum Reach {
        FULL_COMMITS, FULL_OPERATIONS, FULL_JOIN, CONFLICT, MADE_PLAIN, TWIN, TWIN_OF_SEVERAL,
        TWIN_LEFT_OUT, PARENT_STOOD_IN, REPLACED_TWICE, DISPUTED_MARK, POINTER_BY_TWIN,
        POINTER_BY_PARENT, UNDO_OF_JOIN, BIG_COUNT
    }

    private static void reach(Reach what) {
        reached[what.ordinal()]++;
    }

    /** The draws; a rule of its own keeps them the same on every machine. */
    private static final class Draws {
        private long state;

        Draws(long seed) {
            state = seed * 0x632BE59BD9B4E019L;
        }

        int below(int bound) {
            state += 0x9E3779B97F4A7C15L;
            long mixed = (state ^ (state >>> 30)) * 0xBF58476D1CE4E5B9L;
            mixed = (mixed ^ (mixed >>> 27)) * 0x94D049BB133111EBL;
            return (int) (((mixed ^ (mixed >>> 31)) >>> 33) % bound);
        }
    }

    private static final class NoRoom extends RuntimeException {
        private static final long serialVersionUID = 1L;
    }

    private static final class Commit {
        int change;
        int parent;
        BigInteger[][] content;
    }

    private static final class View {
        TreeSet<Integer> visible = new TreeSet<>();
        int[] marks = {-1, -1, -1};
        int working = 0;

        View copy() {
            View copy = new View();
            copy.visible.addAll(visible);
            copy.marks = marks.clone();
            copy.working = working;
            return copy;
        }
    }

    private static final class Operation {
        View view;
        int first = -1;
        int second = -1;
        boolean byJoin;
    }

    private static final class Model {
        final List<Commit> commits = new ArrayList<>();
        final List<Operation> operations = new ArrayList<>();
        int changes = 0;
        int line0 = 0;
        Integer line1 = null;
        int began = -1;
        int chosen = 0;

        View view;
        int[] replacedBy;

        Model() {
            Commit root = new Commit();
            root.change = 0;
            root.parent = -1;
            root.content = new BigInteger[4][8];
            for (int path = 0; path < 4; path++) {
                root.content[path] = plain(0);
            }
            commits.add(root);
            Operation zero = new Operation();
            zero.view = new View();
            zero.view.visible.add(0);
            operations.add(zero);
        }

        static BigInteger[] plain(int v) {
            BigInteger[] counts = new BigInteger[8];
            for (int i = 0; i < 8; i++) {
                counts[i] = i == v ? BigInteger.ONE : BigInteger.ZERO;
            }
            return counts;
        }

        static boolean isPlain(BigInteger[] counts, int v) {
            return java.util.Arrays.equals(counts, plain(v));
        }

        static BigInteger[] sum(BigInteger[] x, BigInteger[] y, BigInteger[] z) {
            BigInteger[] result = new BigInteger[8];
            List<Integer> notZero = new ArrayList<>();
            for (int v = 0; v < 8; v++) {
                result[v] = x[v].add(y[v]).subtract(z[v]);
                if (result[v].signum() != 0) {
                    notZero.add(v);
                }
                if (result[v].abs().compareTo(BigInteger.valueOf(2)) > 0) {
                    reach(Reach.BIG_COUNT);
                }
            }
            if (notZero.size() == 2) {
                reach(Reach.MADE_PLAIN);
                int one = notZero.get(0);
                int other = notZero.get(1);
                return plain(result[one].signum() > 0 ? one : other);
            }
            if (notZero.size() > 2) {
                reach(Reach.CONFLICT);
            }
            return result;
        }

        boolean comesOf(int c, int ancestor) {
            for (int at = commits.get(c).parent; at >= 0; at = commits.get(at).parent) {
                if (at == ancestor) {
                    return true;
                }
            }
            return false;
        }

        boolean isCommit(int c) {
            return c >= 0 && c < commits.size();
        }

        boolean isOperation(int operation) {
            return operation >= 0 && operation < operations.size();
        }

        int current() {
            return chosen == 0 ? line0 : line1;
        }

        int add(int change, int parent, BigInteger[][] content) {
            if (commits.size() == 60) {
                throw new NoRoom();
            }
            Commit made = new Commit();
            made.change = change;
            made.parent = parent;
            made.content = content;
            commits.add(made);
            return commits.size() - 1;
        }

        BigInteger[][] contentOf(int c) {
            return commits.get(c).content.clone();
        }

        BigInteger[][] moved(int c, int onto, int from) {
            BigInteger[][] content = new BigInteger[4][];
            for (int path = 0; path < 4; path++) {
                content[path] = sum(commits.get(c).content[path], commits.get(onto).content[path],
                        commits.get(from).content[path]);
            }
            return content;
        }

        void replace(int c, int t) {
            view.visible.remove(c);
            view.visible.add(t);
            replacedBy[c] = t;
        }

        int place(int x, int y) {
            if (view.visible.contains(x)) {
                return x;
            }
            if (replacedBy[x] >= 0) {
                return place(replacedBy[x], y);
            }
            TreeSet<Integer> twins = new TreeSet<>();
            for (int c : view.visible) {
                if (commits.get(c).change == commits.get(x).change) {
                    if (y >= 0 && (c == y || comesOf(c, y))) {
                        reach(Reach.TWIN_LEFT_OUT);
                    } else {
                        twins.add(c);
                    }
                }
            }
            if (!twins.isEmpty()) {
                reach(y >= 0 ? Reach.TWIN : Reach.POINTER_BY_TWIN);
                if (twins.size() > 1) {
                    reach(Reach.TWIN_OF_SEVERAL);
                }
                return twins.last();
            }
            reach(y >= 0 ? Reach.PARENT_STOOD_IN : Reach.POINTER_BY_PARENT);
            return place(commits.get(x).parent, y);
        }

        int lowestToSettle() {
            for (int c : view.visible) {
                if (c != 0 && !view.visible.contains(commits.get(c).parent)) {
                    return c;
                }
            }
            return -1;
        }

        void settle(int commitsBefore) {
            for (int y = lowestToSettle(); y >= 0; y = lowestToSettle()) {
                if (y >= commitsBefore) {
                    reach(Reach.REPLACED_TWICE);
                }
                int p = commits.get(y).parent;
                int q = place(p, y);
                replace(y, add(commits.get(y).change, q, moved(y, q, p)));
            }
            for (int mark = 0; mark < 3; mark++) {
                if (view.marks[mark] >= 0) {
                    view.marks[mark] = place(view.marks[mark], -1);
                }
            }
            view.working = place(view.working, -1);
        }

        /** Carries a command out on a copy, so that one which finds no room leaves nothing. */
        int command(Command command, int a, int b) {
            int refusal = refusal(command, a, b);
            if (refusal != 0) {
                return refusal;
            }
            int commitsBefore = commits.size();
            int changesBefore = changes;
            view = operations.get(current()).view.copy();
            replacedBy = new int[60];
            java.util.Arrays.fill(replacedBy, -1);
            try {
                carryOut(command, a, b);
                settle(commitsBefore);
                return leave(command == Command.JOIN);
            } catch (NoRoom none) {
                noteNoRoom(command);
                while (commits.size() > commitsBefore) {
                    commits.remove(commits.size() - 1);
                }
                changes = changesBefore;
                return -3;
            }
        }

        void noteNoRoom(Command command) {
            reach(operations.size() == 100 ? Reach.FULL_OPERATIONS : Reach.FULL_COMMITS);
            if (command == Command.JOIN && operations.size() < 100) {
                reach(Reach.FULL_JOIN);
            }
        }

        int leave(boolean byJoin) {
            if (operations.size() == 100) {
                throw new NoRoom();
            }
            Operation made = new Operation();
            made.view = view;
            made.first = byJoin ? line0 : current();
            made.second = byJoin ? line1 : -1;
            made.byJoin = byJoin;
            operations.add(made);
            int number = operations.size() - 1;
            if (byJoin) {
                line0 = number;
                line1 = null;
                chosen = 0;
            } else if (chosen == 0) {
                line0 = number;
            } else {
                line1 = number;
            }
            return number;
        }

        int refusal(Command command, int a, int b) {
            View now = operations.get(current()).view;
            Operation last = operations.get(current());
            switch (command) {
                case CREATE:
                    return now.visible.contains(a) ? 0 : -1;
                case WRITE:
                    if (now.working == 0 || a < 0 || a > 3 || b < 0 || b > 7) {
                        return -1;
                    }
                    return isPlain(commits.get(now.working).content[a], b) ? -2 : 0;
                case REBASE:
                    if (a == 0 || !now.visible.contains(a) || !now.visible.contains(b) || a == b
                            || comesOf(b, a)) {
                        return -1;
                    }
                    return commits.get(a).parent == b ? -2 : 0;
                case ABANDON:
                    return a == 0 || !now.visible.contains(a) ? -1 : 0;
                case SQUASH:
                    return a == 0 || !now.visible.contains(a) || commits.get(a).parent == 0 ? -1 : 0;
                case EDIT:
                    return !now.visible.contains(a) ? -1 : now.working == a ? -2 : 0;
                case MARK:
                    if (a < 0 || a > 2 || (b != -1 && !now.visible.contains(b))) {
                        return -1;
                    }
                    return now.marks[a] == b ? -2 : 0;
                case UNDO:
                    if (last.byJoin) {
                        reach(Reach.UNDO_OF_JOIN);
                    }
                    return current() == 0 || last.byJoin ? -1 : 0;
                case RESTORE:
                    return isOperation(a) ? 0 : -1;
                default:
                    return line1 == null ? -1 : 0;
            }
        }

        void carryOut(Command command, int a, int b) {
            switch (command) {
                case CREATE:
                    view.working = add(++changes, a, contentOf(a));
                    view.visible.add(view.working);
                    break;
                case WRITE: {
                    int c = view.working;
                    BigInteger[][] content = contentOf(c);
                    content[a] = plain(b);
                    replace(c, add(commits.get(c).change, commits.get(c).parent, content));
                    break;
                }
                case REBASE:
                    replace(a, add(commits.get(a).change, b, moved(a, b, commits.get(a).parent)));
                    break;
                case ABANDON:
                    replace(a, commits.get(a).parent);
                    break;
                case SQUASH: {
                    int p = commits.get(a).parent;
                    int t = add(commits.get(p).change, commits.get(p).parent, contentOf(a));
                    replace(a, t);
                    replace(p, t);
                    break;
                }
                case EDIT:
                    view.working = a;
                    break;
                case MARK:
                    view.marks[a] = b;
                    break;
                case UNDO:
                    view = operations.get(operations.get(current()).first).view.copy();
                    break;
                case RESTORE:
                    view = operations.get(a).view.copy();
                    break;
                default:
                    view = joined(operations.get(began).view, operations.get(line0).view,
                            operations.get(line1).view);
                    break;
            }
        }

        View joined(View o, View a, View b) {
            View result = new View();
            for (int c = 0; c < commits.size(); c++) {
                boolean inA = a.visible.contains(c);
                boolean inB = b.visible.contains(c);
                if ((inA && inB) || ((inA || inB) && !o.visible.contains(c))) {
                    result.visible.add(c);
                }
            }
            for (int mark = 0; mark < 3; mark++) {
                if (a.marks[mark] == o.marks[mark]) {
                    result.marks[mark] = b.marks[mark];
                } else if (b.marks[mark] == o.marks[mark] || b.marks[mark] == a.marks[mark]) {
                    result.marks[mark] = a.marks[mark];
                } else {
                    result.marks[mark] = -2;
                    reach(Reach.DISPUTED_MARK);
                }
            }
            result.working = a.working == o.working ? b.working : a.working;
            return result;
        }

        boolean fork(int operation) {
            if (line1 != null || !isOperation(operation)) {
                return false;
            }
            line1 = operation;
            began = operation;
            chosen = 1;
            return true;
        }

        boolean choose(int line) {
            if (line != 0 && (line != 1 || line1 == null)) {
                return false;
            }
            chosen = line;
            return true;
        }

        int head(int operation, int i) {
            if (!isOperation(operation)) {
                return -1;
            }
            TreeSet<Integer> heads = new TreeSet<>(operations.get(operation).view.visible);
            for (int c : operations.get(operation).view.visible) {
                heads.remove(commits.get(c).parent);
            }
            List<Integer> inOrder = new ArrayList<>(heads);
            return i >= 0 && i < inOrder.size() ? inOrder.get(i) : -1;
        }
    }

    private enum Command {
        CREATE, WRITE, REBASE, ABANDON, SQUASH, EDIT, MARK, UNDO, RESTORE, JOIN, FORK, CHOOSE
    }

    /** Keeps to the document's most calls: a fresh object repeats the commands when one is used up. */
    private static final class Store {
        private final List<int[]> log = new ArrayList<>();
        private ChangeStore store = new ChangeStore();
        private int calls = 0;

        private ChangeStore ready() {
            if (calls == MOST_CALLS) {
                store = new ChangeStore();
                for (int[] call : log) {
                    send(store, Command.values()[call[0]], call[1], call[2]);
                }
                calls = log.size();
            }
            calls++;
            return store;
        }

        long command(Command command, int a, int b) {
            long answer = send(ready(), command, a, b);
            log.add(new int[] {command.ordinal(), a, b});
            return answer;
        }

        private static long send(ChangeStore store, Command command, int a, int b) {
            switch (command) {
                case CREATE: return store.create(a);
                case WRITE: return store.write(a, b);
                case REBASE: return store.rebase(a, b);
                case ABANDON: return store.abandon(a);
                case SQUASH: return store.squash(a);
                case EDIT: return store.edit(a);
                case MARK: return store.mark(a, b);
                case UNDO: return store.undo();
                case RESTORE: return store.restore(a);
                case JOIN: return store.join();
                case FORK: return store.fork(a) ? 1 : 0;
                default: return store.choose(a) ? 1 : 0;
            }
        }
    }

    private final int run;
    private final Draws draws;
    private final Model model = new Model();
    private final Store store = new Store();

    private ModelTest(int run) {
        this.run = run;
        this.draws = new Draws(run);
    }

    private void due(long got, long want, String call, int... arguments) {
        if (got != want) {
            wrong++;
            if (wrong <= SHOWN_FAULTS) {
                StringBuilder said = new StringBuilder();
                for (int argument : arguments) {
                    said.append(said.length() == 0 ? "" : ", ").append(argument);
                }
                System.out.println("run " + run + ", after " + store.log.size() + " commands: " + call
                        + "(" + said + ") answered " + got + ", due is " + want);
            }
        }
    }

    private void play() {
        boolean manyOperations = run % 10 == 0;
        int length = manyOperations ? 150 : 30 + draws.below(60);
        if (!manyOperations) {
            growTree(3 + draws.below(6));
        }
        for (int step = 0; step < length; step++) {
            Command command = drawCommand(manyOperations ? SPARING : LIVELY);
            int a = drawFirst(command);
            int b = drawSecond(command);
            step(command, a, b);
        }
        compareOperations();
        compareCommits();
    }

    private void growTree(int size) {
        for (int i = 0; i < size; i++) {
            step(Command.CREATE, drawVisible(), 0);
            step(Command.WRITE, drawFirst(Command.WRITE), drawSecond(Command.WRITE));
        }
    }

    private void step(Command command, int a, int b) {
        long want;
        if (command == Command.FORK) {
            want = model.fork(a) ? 1 : 0;
        } else if (command == Command.CHOOSE) {
            want = model.choose(a) ? 1 : 0;
        } else {
            want = model.command(command, a, b);
        }
        due(store.command(command, a, b), want, command.name().toLowerCase(), a, b);
        due(store.ready().operation(), model.current(), "operation");
    }

    private Command drawCommand(int[] upTo) {
        int draw = draws.below(100);
        int i = 0;
        while (draw >= upTo[i]) {
            i++;
        }
        return Command.values()[i];
    }

    private int drawVisible() {
        if (draws.below(25) == 0) {
            return draws.below(64) - 2;
        }
        List<Integer> visible = new ArrayList<>(model.operations.get(model.current()).view.visible);
        return visible.get(draws.below(visible.size()));
    }

    private int drawOperation() {
        if (draws.below(12) == 0) {
            return draws.below(104) - 2;
        }
        int last = model.operations.size() - 1;
        return Math.max(0, last - draws.below(draws.below(4) != 0 ? 6 : last + 1));
    }

    private int drawFirst(Command command) {
        switch (command) {
            case WRITE: return draws.below(30) == 0 ? draws.below(8) - 2 : draws.below(4) / 2;
            case MARK: return draws.below(15) == 0 ? draws.below(7) - 2 : draws.below(3);
            case RESTORE:
            case FORK: return drawOperation();
            case CHOOSE: return draws.below(15) == 0 ? draws.below(5) - 2 : draws.below(2);
            case UNDO:
            case JOIN: return 0;
            default: return drawVisible();
        }
    }

    private int drawSecond(Command command) {
        switch (command) {
            case WRITE: return draws.below(30) == 0 ? draws.below(12) - 2 : draws.below(8);
            case MARK: return draws.below(8) == 0 ? -1 : drawVisible();
            case REBASE: return drawVisible();
            default: return 0;
        }
    }

    private void compareOperations() {
        for (int operation = -1; operation <= model.operations.size(); operation++) {
            boolean is = model.isOperation(operation);
            Operation want = is ? model.operations.get(operation) : null;
            due(store.ready().before(operation, 0), is ? want.first : -1, "before", operation, 0);
            due(store.ready().before(operation, 1), is ? want.second : -1, "before", operation, 1);
            due(store.ready().working(operation), is ? want.view.working : -1, "working", operation);
            for (int mark = 0; mark < 3; mark++) {
                due(store.ready().marked(operation, mark), is ? want.view.marks[mark] : -1, "marked",
                        operation, mark);
            }
            for (int c = 0; c < model.commits.size(); c++) {
                due(store.ready().visible(operation, c) ? 1 : 0,
                        is && want.view.visible.contains(c) ? 1 : 0, "visible", operation, c);
            }
            int i = 0;
            do {
                due(store.ready().head(operation, i), model.head(operation, i), "head", operation, i);
                i++;
            } while (model.head(operation, i - 1) >= 0);
        }
    }

    private void compareCommits() {
        for (int c = -1; c <= model.commits.size(); c++) {
            boolean is = model.isCommit(c);
            due(store.ready().commit(c, 0), is ? model.commits.get(c).parent : -1, "commit", c, 0);
            due(store.ready().commit(c, 1), is ? model.commits.get(c).change : -1, "commit", c, 1);
            for (int path = 0; path < 4; path++) {
                for (int v = 0; v < 8; v++) {
                    long want = is ? model.commits.get(c).content[path][v].longValueExact() : 0;
                    due(store.ready().count(c, path, v), want, "count", c, path, v);
                }
            }
        }
    }

    public static void main(String[] args) {
        for (int run = 1; run <= RUNS; run++) {
            new ModelTest(run).play();
        }
        for (Reach what : Reach.values()) {
            if (reached[what.ordinal()] == 0) {
                wrong++;
                System.out.println("no run came to " + what);
            }
            if (args.length > 0) {
                System.out.println(what + " " + reached[what.ordinal()]);
            }
        }
        System.out.println(wrong == 0 ? "all answers are as the model's" : wrong + " answers are not as due");
        if (wrong != 0) {
            System.exit(1);
        }
    }
}
