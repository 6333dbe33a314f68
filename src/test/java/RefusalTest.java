import java.util.ArrayList;
import java.util.List;
import java.util.function.Consumer;
import java.util.function.ToLongFunction;

/**
 * "A refused call changes nothing. Numbers out of their ranges are REFUSED in every call (in
 * test and event NONE)." Two objects are built alike, one of them gets the refused call, and
 * everything behind it is answered alike by both.
 */
public final class RefusalTest {
    private static final int MIN = Integer.MIN_VALUE;
    private static final int MAX = Integer.MAX_VALUE;
    private static final int MOST_CALLS = 512;

    private record Call(String name, long answer, ToLongFunction<PathExplorer> on) {
    }

    private record State(String name, Consumer<PathExplorer> build) {
    }

    private static final List<Call> refused = new ArrayList<>();

    public static void main(String[] args) {
        emits();
        methods();
        handlers();
        ranges();
        questions();
        List<State> states = List.of(
            new State("a new object", x -> { }),
            new State("a written one", RefusalTest::write),
            new State("an explored one", RefusalTest::explore),
            new State("a full one", RefusalTest::fill),
            new State("a cleared one", RefusalTest::clear));
        for (State state : states) {
            for (Call call : refused) {
                dueUnchanged(state, call);
            }
        }
        withoutEntry(states.get(0));
        withoutEntry(states.get(4));
        whereFull(states.get(3));
        changesAreSeen(states.get(2));
        Check.end();
    }

    private static int[] i(int... row) {
        return row;
    }

    /** A program that uses each METHOD and a HANDLER. */
    private static void write(PathExplorer x) {
        Check.emit(x, i(1, 0), i(1, 1), i(6), i(23, 7, 1), i(33, 1), i(33, 2), i(32),
            i(1, 0), i(1, 1), i(33, 3), i(2, 2), i(31, 7), i(1, 2), i(3), i(32),
            i(0, 4), i(32), i(1, 0), i(0, 1), i(3), i(32), i(1, 1), i(32));
        x.method(0, 0, 2);
        x.method(1, 15, 0);
        x.method(2, 17, 1);
        x.method(3, 21, 2);
        x.handler(11, 12, 12, 7);
        x.range(0, 0, 4);
        x.range(1, -1, 2);
    }

    private static void explore(PathExplorer x) {
        write(x);
        x.explore(1);
        x.run(9, 2);
    }

    private static void fill(PathExplorer x) {
        explore(x);
        for (int n = x.count(0); n < 60; n++) {
            Check.emit(x, i(31, 9));
        }
        for (int h = x.count(1); h < 6; h++) {
            x.handler(0, 60, 59, 9);
        }
    }

    private static void clear(PathExplorer x) {
        explore(x);
        x.clear();
    }

    private static void refuse(String name, ToLongFunction<PathExplorer> on) {
        refused.add(new Call(name, PathExplorer.REFUSED, on));
    }

    private static void emit(int operation, int a, int b) {
        refuse("emit(" + operation + ", " + a + ", " + b + ")", x -> x.emit(operation, a, b));
    }

    private static void emits() {
        int[] noOperation = {MIN, -1, 35, MAX};
        for (int operation : noOperation) {
            emit(operation, 0, 0);
        }
        int[][] limits = {
            {1, 0, 3}, {2, 0, 3}, {33, 0, 3}, {34, 0, 3}, {22, 0, 59}, {23, 0, 59}, {24, 0, 59}, {25, 0, 59}, {31, 5, 9},
        };
        for (int[] row : limits) {
            int[] wrong = {MIN, row[1] - 1, row[2] + 1, MAX};
            for (int a : wrong) {
                emit(row[0], a, 0);
            }
        }
        int[] wrong = {MIN, -1, 6, MAX};
        for (int b : wrong) {
            emit(23, 0, b);
            emit(24, 0, b);
        }
    }

    private static void method(int m, int start, int arguments) {
        refuse("method(" + m + ", " + start + ", " + arguments + ")", x -> x.method(m, start, arguments));
    }

    private static void methods() {
        int[] noMethod = {MIN, -1, 4, MAX};
        for (int m : noMethod) {
            method(m, 1, 2);
            method(m, 1, 0);
        }
        int[] noStart = {MIN, -1, 60, MAX};
        int[] noCount = {MIN, -1, 3, MAX};
        for (int m = 0; m < 4; m++) {
            for (int start : noStart) {
                method(m, start, 2);
            }
            for (int count : noCount) {
                method(m, 1, count);
            }
        }
        method(0, 1, 0);
        method(0, 1, 1);
    }

    private static void handler(int from, int to, int place, int kind) {
        refuse("handler(" + from + ", " + to + ", " + place + ", " + kind + ")", x -> x.handler(from, to, place, kind));
    }

    private static void handlers() {
        int[] noPlace = {MIN, -1, 61, MAX};
        for (int n : noPlace) {
            handler(n, 60, 12, 0);
            handler(0, n, 12, 0);
            handler(0, 60, n, 0);
        }
        int[] noKind = {MIN, -1, 10, MAX};
        for (int kind : noKind) {
            handler(0, 60, 12, kind);
        }
    }

    private static void range(int i, int lo, int hi) {
        refuse("range(" + i + ", " + lo + ", " + hi + ")", x -> x.range(i, lo, hi));
    }

    private static void ranges() {
        int[] none = {MIN, -1, 2, MAX};
        for (int i : none) {
            range(i, 1, 2);
        }
        for (int i = 0; i < 2; i++) {
            range(i, 1, 0);
            range(i, 0, 16);
            range(i, MAX, MIN);
            range(i, MIN, MAX);
        }
    }

    private static void questions() {
        int[] noWay = {MIN, -1, 2, MAX};
        for (int way : noWay) {
            refuse("explore(" + way + ")", x -> x.explore(way));
        }
        int[] noCount = {MIN, -1, 7, MAX};
        for (int what : noCount) {
            refuse("count(" + what + ")", x -> x.count(what));
        }
        int[] noTest = {MIN, -1, 40, MAX};
        for (int k : noTest) {
            none("test(" + k + ", 0)", x -> x.test(k, 0));
            none("event(" + k + ", 0, 0)", x -> x.event(k, 0, 0));
        }
        int[] noFact = {MIN, -1, 6, MAX};
        for (int what : noFact) {
            none("test(0, " + what + ")", x -> x.test(0, what));
        }
        int[] noEvent = {MIN, -1, 20, MAX};
        for (int n : noEvent) {
            none("event(0, " + n + ", 0)", x -> x.event(0, n, 0));
        }
        int[] noPart = {MIN, -1, 3, MAX};
        for (int what : noPart) {
            none("event(0, 0, " + what + ")", x -> x.event(0, 0, what));
        }
        int[] noInstruction = {MIN, -1, 60, MAX};
        for (int n : noInstruction) {
            refused.add(new Call("covered(" + n + ", 0)", 0, x -> x.covered(n, 0) ? 1 : 0));
        }
        int[] noSide = {MIN, -1, 4, MAX};
        for (int side : noSide) {
            refused.add(new Call("covered(2, " + side + ")", 0, x -> x.covered(2, side) ? 1 : 0));
        }
    }

    private static void none(String name, ToLongFunction<PathExplorer> on) {
        refused.add(new Call(name, PathExplorer.NONE, on));
    }

    private static void withoutEntry(State state) {
        dueUnchanged(state, new Call("run(0, 0)", PathExplorer.REFUSED, x -> x.run(0, 0)));
        dueUnchanged(state, new Call("explore(0)", PathExplorer.REFUSED, x -> x.explore(0)));
        dueUnchanged(state, new Call("explore(1)", PathExplorer.REFUSED, x -> x.explore(1)));
    }

    private static void whereFull(State state) {
        for (int operation = 0; operation <= 34; operation++) {
            int n = operation;
            int a = operation == 31 ? 5 : 0;
            dueUnchanged(state, new Call("emit(" + n + ", " + a + ", 0)", PathExplorer.FULL, x -> x.emit(n, a, 0)));
        }
        dueUnchanged(state, new Call("handler(0, 60, 12, 0)", PathExplorer.FULL, x -> x.handler(0, 60, 12, 0)));
        dueUnchanged(state, new Call("handler(60, 60, 60, 9)", PathExplorer.FULL, x -> x.handler(60, 60, 60, 9)));
    }

    private static void dueUnchanged(State state, Call call) {
        String name = call.name() + " on " + state.name();
        PathExplorer x = built(state);
        Check.due(name, call.on().applyAsLong(x), call.answer());
        Check.due(name + " changes nothing", answersBehind(x).equals(answersBehind(built(state))), true);
    }

    /** The comparison itself: a call that is taken must make a difference to the answers behind it. */
    private static void changesAreSeen(State state) {
        List<Call> taken = List.of(
            new Call("emit(0, 0, 0)", 23, x -> x.emit(0, 0, 0)),
            new Call("method(0, 1, 2)", 0, x -> x.method(0, 1, 2)),
            new Call("method(1, 16, 0)", 0, x -> x.method(1, 16, 0)),
            new Call("method(2, 17, 0)", 0, x -> x.method(2, 17, 0)),
            new Call("method(3, 21, 1)", 0, x -> x.method(3, 21, 1)),
            new Call("handler(0, 60, 12, 0)", 1, x -> x.handler(0, 60, 12, 0)),
            new Call("range(0, 0, 5)", 0, x -> x.range(0, 0, 5)),
            new Call("range(1, -1, 3)", 0, x -> x.range(1, -1, 3)),
            new Call("run(0, 2)", PathExplorer.RETURNED, x -> x.run(0, 2)),
            new Call("explore(0)", 3, x -> x.explore(0)),
            new Call("clear()", 23, x -> x.clear()));
        for (Call call : taken) {
            PathExplorer x = built(state);
            Check.due(call.name(), call.on().applyAsLong(x), call.answer());
            Check.due(call.name() + " is seen", answersBehind(x).equals(answersBehind(built(state))), false);
        }
    }

    private static PathExplorer built(State state) {
        PathExplorer x = new PathExplorer();
        state.build().accept(x);
        return x;
    }

    /** All that can be asked, before and behind runs, both explores, and a change of each table. */
    private static List<Long> answersBehind(PathExplorer x) {
        List<Long> answers = new ArrayList<>();
        ask(x, answers);
        answers.add((long) x.run(2, 1));
        answers.add((long) x.run(0, 1));
        answers.add((long) x.explore(0));
        ask(x, answers);
        answers.add((long) x.explore(1));
        ask(x, answers);
        // What lies behind the ends of the RANGES is seen by looking for it.
        answers.add((long) x.clear());
        for (int n = 0; n < 2; n++) {
            answers.add((long) x.emit(1, n, 0));
            answers.add((long) x.emit(0, n == 0 ? 5 : 3, 0));
            answers.add((long) x.emit(24, 4 * n + 4, 0));
            answers.add((long) x.emit(0, 0, 0));
        }
        answers.add((long) x.method(0, 0, 2));
        answers.add((long) x.handler(1, 2, 3, 4));
        answers.add((long) x.explore(0));
        ask(x, answers);
        // The builders take some 120 calls at most.
        Check.due("the test's own calls", answers.size() < MOST_CALLS - 120, true);
        return answers;
    }

    private static void ask(PathExplorer x, List<Long> answers) {
        for (int what = 0; what <= 6; what++) {
            answers.add((long) x.count(what));
        }
        answers.add(x.value());
        answers.add(x.complete() ? 1L : 0L);
        for (int k = 0; k < 5; k++) {
            for (int what = 0; what <= 5; what++) {
                answers.add(x.test(k, what));
            }
            for (int n = 0; n < 3; n++) {
                answers.add(x.event(k, n, 0));
                answers.add(x.event(k, n, 1));
            }
        }
        for (int side = 0; side < 4; side++) {
            answers.add(x.covered(2, side) ? 1L : 0L);
            answers.add(x.covered(3, side) ? 1L : 0L);
        }
    }
}
