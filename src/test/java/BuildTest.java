/** Promises 1 to 6, and of 14 the counts of instructions and HANDLERS. */
public final class BuildTest {
    private static final int MIN = Integer.MIN_VALUE;
    private static final int MAX = Integer.MAX_VALUE;

    public static void main(String[] args) {
        newObject();
        emitOperands();
        emitFull();
        methods();
        handlers();
        ranges();
        clearing();
        Check.end();
    }

    private static void newObject() {
        PathExplorer x = new PathExplorer();
        for (int what = 0; what <= 6; what++) {
            Check.due("new: count(" + what + ")", x.count(what), 0);
        }
        Check.due("new: count(-1)", x.count(-1), PathExplorer.REFUSED);
        Check.due("new: count(7)", x.count(7), PathExplorer.REFUSED);
        Check.due("new: count(MIN)", x.count(MIN), PathExplorer.REFUSED);
        Check.due("new: value()", x.value(), PathExplorer.NONE);
        Check.due("new: run", x.run(0, 0), PathExplorer.REFUSED);
        Check.due("new: explore", x.explore(0), PathExplorer.REFUSED);
        Check.due("new: test", x.test(0, 0), PathExplorer.NONE);
        Check.due("new: event", x.event(0, 0, 0), PathExplorer.NONE);
        Check.due("new: covered", x.covered(0, 0), false);
        Check.due("new: complete", x.complete(), false);
        Check.due("new: clear", x.clear(), 0);
    }

    private static void emitOperands() {
        PathExplorer x = new PathExplorer();
        for (int operation = 0; operation <= 34; operation++) {
            boolean small = operation == 1 || operation == 2 || operation == 33 || operation == 34;
            boolean jump = operation >= 22 && operation <= 25;
            boolean raise = operation == 31;
            boolean compares = operation == 23 || operation == 24;
            int[] as = {MIN, -1, 0, 3, 4, 5, 9, 10, 59, 60, MAX};
            int[] bs = {MIN, -1, 0, 5, 6, MAX};
            for (int a : as) {
                for (int b : bs) {
                    boolean fits = (!small || a >= 0 && a <= 3) && (!jump || a >= 0 && a <= 59)
                        && (!raise || a >= 5 && a <= 9) && (!compares || b >= 0 && b <= 5);
                    x.clear();
                    String call = "emit(" + operation + ", " + a + ", " + b + ")";
                    Check.due(call, x.emit(operation, a, b), fits ? 0 : PathExplorer.REFUSED);
                    Check.due("count(0) behind " + call, x.count(0), fits ? 1 : 0);
                }
            }
        }
        x.clear();
        int[] none = {MIN, -1, 35, MAX};
        for (int operation : none) {
            Check.due("emit(" + operation + ")", x.emit(operation, 0, 0), PathExplorer.REFUSED);
        }
        Check.due("no instruction came", x.count(0), 0);
    }

    private static void emitFull() {
        PathExplorer x = new PathExplorer();
        for (int i = 0; i < 60; i++) {
            Check.due("emit number", x.emit(0, i, 0), i);
        }
        Check.due("the 61st", x.emit(0, 0, 0), PathExplorer.FULL);
        Check.due("the 61st with a wrong number", x.emit(35, 0, 0), PathExplorer.REFUSED);
        Check.due("60 stay", x.count(0), 60);
        x.method(0, 59, 2);
        Check.dueRun("the 60th was the last", x, 0, 0, PathExplorer.BROKEN, PathExplorer.NONE, 0, 2);
        Check.due("clear", x.clear(), 60);
        Check.due("room again", x.emit(0, 0, 0), 0);
    }

    private static void methods() {
        PathExplorer x = new PathExplorer();
        int[][] wrong = {
            {-1, 0, 2}, {4, 0, 0}, {MIN, 0, 0}, {MAX, 0, 0}, {1, -1, 0}, {1, 60, 0}, {1, 0, -1}, {1, 0, 3},
            {0, 0, 0}, {0, 0, 1}, {0, 0, 3}, {0, 60, 2}, {0, -1, 2},
        };
        for (int[] m : wrong) {
            Check.due("method(" + m[0] + ", " + m[1] + ", " + m[2] + ")", x.method(m[0], m[1], m[2]), PathExplorer.REFUSED);
        }
        Check.due("still no ENTRY", x.run(0, 0), PathExplorer.REFUSED);
        Check.due("method(1, 0, 0)", x.method(1, 0, 0), 0);
        Check.due("only the ENTRY is asked for", x.run(0, 0), PathExplorer.REFUSED);
        Check.due("only the ENTRY is asked for", x.explore(0), PathExplorer.REFUSED);
        Check.due("method(0, 59, 2)", x.method(0, 59, 2), 0);
        Check.dueRun("an ENTRY without an instruction", x, 0, 0, PathExplorer.BROKEN, PathExplorer.NONE, 0, 1);
        for (int m = 1; m < 4; m++) {
            for (int arguments = 0; arguments <= 2; arguments++) {
                Check.due("method(" + m + ", 59, " + arguments + ")", x.method(m, 59, arguments), 0);
            }
        }
        Check.emit(x, Check.i(0, 11), Check.i(32), Check.i(0, 22), Check.i(32));
        x.method(0, 0, 2);
        Check.dueRun("the ENTRY at 0", x, 0, 0, PathExplorer.RETURNED, 11, 0, 2);
        x.method(0, 2, 2);
        Check.dueRun("a method may be defined anew", x, 0, 0, PathExplorer.RETURNED, 22, 0, 2);
        x.method(0, 60, 2);
        Check.dueRun("a refused one changes nothing", x, 0, 0, PathExplorer.RETURNED, 22, 0, 2);
    }

    private static void handlers() {
        PathExplorer x = new PathExplorer();
        int[][] wrong = {
            {-1, 0, 0, 0}, {61, 0, 0, 0}, {0, -1, 0, 0}, {0, 61, 0, 0}, {0, 0, -1, 0}, {0, 0, 61, 0},
            {0, 0, 0, -1}, {0, 0, 0, 10}, {MIN, 0, 0, 0}, {0, MAX, 0, 0},
        };
        for (int[] h : wrong) {
            Check.due("handler", x.handler(h[0], h[1], h[2], h[3]), PathExplorer.REFUSED);
        }
        Check.due("no HANDLER came", x.count(1), 0);
        for (int h = 0; h < 6; h++) {
            Check.due("handler number", x.handler(60, h == 0 ? 60 : 0, 60, h == 0 ? 9 : h), h);
            Check.due("count(1)", x.count(1), h + 1);
        }
        Check.due("the 7th", x.handler(0, 0, 0, 0), PathExplorer.FULL);
        Check.due("the 7th with a wrong number", x.handler(0, 0, 0, 10), PathExplorer.REFUSED);
        Check.due("6 stay", x.count(1), 6);
        x.clear();
        Check.due("none behind clear", x.count(1), 0);
        Check.due("numbered from 0 again", x.handler(0, 0, 0, 0), 0);
    }

    private static void ranges() {
        PathExplorer x = Check.program(Check.i(1, 0), Check.i(32));
        x.explore(0);
        Check.due("lo of P at first", x.test(0, 0), 0);
        Check.due("lo of Q at first", x.test(0, 1), 0);
        int[][] wrong = {
            {-1, 0, 0}, {2, 0, 0}, {0, 1, 0}, {0, 0, 16}, {0, -8, 8}, {1, MIN, MAX}, {1, MAX, MIN}, {0, 0, MAX},
            {0, MIN, 0}, {1, MIN, -1}, {1, -2, MAX - 1},
        };
        for (int[] r : wrong) {
            Check.due("range(" + r[0] + ", " + r[1] + ", " + r[2] + ")", x.range(r[0], r[1], r[2]), PathExplorer.REFUSED);
        }
        x.explore(0);
        Check.due("P's RANGE stays", x.test(0, 0), 0);
        Check.due("Q's RANGE stays", x.test(0, 1), 0);
        Check.due("range(0, MIN, MIN + 15)", x.range(0, MIN, MIN + 15), 0);
        Check.due("range(1, MAX - 15, MAX)", x.range(1, MAX - 15, MAX), 0);
        x.explore(0);
        Check.due("lo of P", x.test(0, 0), MIN);
        Check.due("lo of Q", x.test(0, 1), MAX - 15);
        Check.due("one value", x.range(0, 5, 5), 0);
        rangeEnds();
    }

    /** The RANGES' last values are inputs, and the ones behind them are none. */
    private static void rangeEnds() {
        PathExplorer x = Check.program(
            Check.i(1, 0), Check.i(0, 3), Check.i(24, 5, 0), Check.i(0, 0), Check.i(32),
            Check.i(1, 1), Check.i(0, 3), Check.i(24, 3, 0), Check.i(0, 1), Check.i(32));
        Check.due("3 for P and Q at first", x.explore(0), 3);
        for (int local = 0; local < 2; local++) {
            PathExplorer four = Check.program(
                Check.i(1, local), Check.i(0, 4), Check.i(24, 3, 0), Check.i(0), Check.i(32));
            Check.due("but no 4", four.explore(0), 1);
        }
        Check.due("their ends", x.test(2, 0) * 10 + x.test(2, 1), 33);
        x.range(1, 0, 2);
        Check.due("Q too short", x.explore(0), 2);
        Check.due("Q's way is INFEASIBLE", x.count(3), 1);
        x.range(0, -1, 2);
        Check.due("P too short", x.explore(0), 1);
        Check.due("P's way is INFEASIBLE", x.count(3), 1);
        x.range(0, 3, 18);
        x.range(1, -12, 3);
        Check.due("3 is P's first, Q's last", x.explore(0), 3);
        PathExplorer y = Check.program(Check.i(1, 0), Check.i(23, 0, 2), Check.i(1, 0), Check.i(32));
        y.range(0, MAX - 2, MAX);
        Check.due("no int is behind the last", y.explore(0), 1);
        Check.due("so this way is INFEASIBLE", y.count(3), 1);
        y.clear();
        Check.emit(y, Check.i(1, 0), Check.i(0, MAX), Check.i(24, 3, 0), Check.i(1, 0), Check.i(32));
        y.method(0, 0, 2);
        Check.due("the last int is an input", y.explore(0), 2);
        Check.due("P", y.test(1, 0), MAX);
    }

    private static void clearing() {
        PathExplorer x = Check.program(Check.i(1, 0), Check.i(23, 0, 1), Check.i(31, 7));
        x.handler(0, 3, 0, 5);
        x.range(0, 2, 3);
        x.explore(0);
        x.run(0, 0);
        int tests = x.count(2);
        Check.due("clear", x.clear(), 3);
        Check.due("no instructions", x.count(0), 0);
        Check.due("no HANDLERS", x.count(1), 0);
        Check.due("no ENTRY to run", x.run(1, 1), PathExplorer.REFUSED);
        Check.due("no ENTRY to explore", x.explore(1), PathExplorer.REFUSED);
        Check.due("the value stays", x.value(), 7);
        Check.due("the TESTS stay", x.count(2), tests);
        Check.due("TEST 0 stays", x.test(0, 0), 2);
        Check.due("EVENT 0 stays", x.event(0, 0, 0), 1);
        Check.due("covered stays", x.covered(1, 1), true);
        Check.due("the run's EVENTS stay", x.count(4), 1);
        Check.due("the run's STEPS stay", x.count(5), 3);
        Check.emit(x, Check.i(33, 1), Check.i(32));
        x.method(0, 0, 2);
        x.explore(0);
        Check.due("the RANGES stay", x.test(0, 0), 2);
        Check.due("the other METHODS went", x.run(0, 0), PathExplorer.BROKEN);
        Check.due("clear again", x.clear(), 2);
        Check.due("and again", x.clear(), 0);
    }
}
