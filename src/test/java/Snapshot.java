import java.util.ArrayList;
import java.util.IdentityHashMap;
import java.util.List;
import java.util.Map;
import java.util.function.Consumer;
import java.util.function.ToLongFunction;

/**
 * The answers to all that can be asked after a run of calls. An object is good for 512 calls, so the
 * run is made again on new objects until all is asked; a run may have 150 calls.
 */
final class Snapshot {
    private static final int ASKED_OF_ONE = 350;

    private static final List<Question> SEQUELS = sequels();
    private static final List<Question> QUESTIONS = questions();
    private static final Map<Consumer<ChangeStore>, long[]> KEPT = new IdentityHashMap<>();

    private static final class Question {
        final String words;
        final ToLongFunction<ChangeStore> ask;

        Question(String words, ToLongFunction<ChangeStore> ask) {
            this.words = words;
            this.ask = ask;
        }
    }

    private Snapshot() {
    }

    /** Null if all is answered alike with and without the call after the run. */
    static String difference(Consumer<ChangeStore> run, ToLongFunction<ChangeStore> call) {
        long[] without = KEPT.computeIfAbsent(run, Snapshot::take);
        long[] with = take(x -> {
            run.accept(x);
            call.applyAsLong(x);
        });
        for (int i = 0; i < with.length; i++) {
            if (with[i] != without[i]) {
                return QUESTIONS.get(i).words + " is " + with[i] + " after it, was " + without[i];
            }
        }
        return null;
    }

    private static long[] take(Consumer<ChangeStore> run) {
        long[] answers = new long[QUESTIONS.size()];
        ChangeStore x = null;
        for (int i = 0; i < answers.length; i++) {
            // The sequels change something, so each needs an object of its own.
            if (i % ASKED_OF_ONE == 0 || i >= answers.length - SEQUELS.size()) {
                x = new ChangeStore();
                run.accept(x);
            }
            answers[i] = QUESTIONS.get(i).ask.applyAsLong(x);
        }
        return answers;
    }

    private static List<Question> questions() {
        List<Question> all = new ArrayList<>();
        add(all, "operation()", x -> x.operation());
        for (int operation = -1; operation <= 100; operation++) {
            askOfOperation(all, operation);
        }
        for (int c = -1; c <= 60; c++) {
            askOfCommit(all, c);
        }
        all.addAll(SEQUELS);
        return all;
    }

    private static void add(List<Question> all, String words, ToLongFunction<ChangeStore> ask) {
        all.add(new Question(words, ask));
    }

    private static void askOfOperation(List<Question> all, int operation) {
        add(all, "before(" + operation + ", 0)", x -> x.before(operation, 0));
        add(all, "before(" + operation + ", 1)", x -> x.before(operation, 1));
        add(all, "working(" + operation + ")", x -> x.working(operation));
        for (int i = 0; i < 3; i++) {
            int mark = i;
            add(all, "marked(" + operation + ", " + mark + ")", x -> x.marked(operation, mark));
        }
        for (int i = 0; i < 61; i++) {
            int c = i;
            add(all, "visible(" + operation + ", " + c + ")", x -> x.visible(operation, c) ? 1 : 0);
            add(all, "head(" + operation + ", " + c + ")", x -> x.head(operation, c));
        }
    }

    private static void askOfCommit(List<Question> all, int c) {
        add(all, "commit(" + c + ", 0)", x -> x.commit(c, 0));
        add(all, "commit(" + c + ", 1)", x -> x.commit(c, 1));
        for (int i = 0; i < 32; i++) {
            int path = i / 8;
            int v = i % 8;
            add(all, "count(" + c + ", " + path + ", " + v + ")", x -> x.count(c, path, v));
        }
    }

    /** What no question tells, as the next numbers and the lines, shows in what later calls do. */
    private static List<Question> sequels() {
        List<Question> all = new ArrayList<>();
        add(all, "create(0)", x -> x.create(0));
        add(all, "the commit of create(0)", x -> firstNotMade(x, x.create(0)));
        add(all, "the change of create(0)", x -> lastChange(x, x.create(0)));
        add(all, "undo()", x -> x.undo());
        add(all, "edit(0)", x -> x.edit(0));
        add(all, "choose(1)", x -> x.choose(1) ? 1 : 0);
        add(all, "operation() of line 0", x -> x.choose(0) ? x.operation() : -9);
        add(all, "operation() of line 1", x -> x.choose(1) ? x.operation() : -9);
        add(all, "fork(0)", x -> x.fork(0) ? 1 : 0);
        add(all, "join()", x -> x.join());
        add(all, "the set of commits after join()", x -> visibleNow(x, x.join()));
        add(all, "the working commit after join()", x -> x.working(x.join()));
        for (int i = 0; i < 3; i++) {
            int mark = i;
            add(all, "mark " + mark + " after join()", x -> x.marked(x.join(), mark));
        }
        return all;
    }

    private static long firstNotMade(ChangeStore x, long made) {
        int c = 0;
        while (c < 64 && x.commit(c, 1) >= 0) {
            c++;
        }
        return c;
    }

    private static long lastChange(ChangeStore x, long made) {
        int last = 0;
        for (int c = 0; c < 60; c++) {
            last = Math.max(last, x.commit(c, 1));
        }
        return last;
    }

    private static long visibleNow(ChangeStore x, long made) {
        long set = 0;
        for (int c = 0; c < 60; c++) {
            set |= x.visible(x.operation(), c) ? 1L << c : 0;
        }
        return set;
    }
}
