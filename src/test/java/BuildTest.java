/** Promises 1 to 6, and of 14 the counts of instructions and HANDLERS: the last number taken, the first refused. */
public final class BuildTest {
    private static final int REFUSED = PathExplorer.REFUSED;
    private static final int FULL = PathExplorer.FULL;
    private static final int RETURNED = PathExplorer.RETURNED;
    private static final int THROWN = PathExplorer.THROWN;
    private static final int BROKEN = PathExplorer.BROKEN;
    private static final long NONE = PathExplorer.NONE;
    private static final int MIN = Integer.MIN_VALUE;
    private static final int MAX = Integer.MAX_VALUE;

    public static void main(String[] args) {
        newObject();
        newObjectsTables();
        emitOperands();
        emitOperations();
        emitFull();
        methods();
        methodsAnew();
        handlers();
        handlersFull();
        rangesTaken();
        rangesRefused();
        rangesAtFirst();
        rangesApart();
        clearing();
        clearingKeepsFound();
        clearingSizes();
        Check.end();
    }

    private static int[] i(int... row) {
        return row;
    }

    /** "No instructions, METHODS and HANDLERS; nothing run or explored." */
    private static void newObject() {
        PathExplorer x = new PathExplorer();
        for (int what = 0; what <= 6; what++) {
            Check.due("new: count(" + what + ")", x.count(what), 0);
        }
        Check.due("new: count(-1)", x.count(-1), REFUSED);
        Check.due("new: count(7)", x.count(7), REFUSED);
        Check.due("new: value()", x.value(), NONE);
        Check.due("new: run", x.run(0, 0), REFUSED);
        Check.due("new: explore(0)", x.explore(0), REFUSED);
        Check.due("new: explore(1)", x.explore(1), REFUSED);
        Check.due("new: complete", x.complete(), false);
        for (int what = 0; what <= 5; what++) {
            Check.due("new: test(0, " + what + ")", x.test(0, what), NONE);
            Check.due("new: test(39, " + what + ")", x.test(39, what), NONE);
            Check.due("new: event(0, 0, " + what + ")", x.event(0, 0, what), NONE);
        }
        for (int instruction = 0; instruction < 60; instruction++) {
            for (int side = 0; side < 4; side++) {
                Check.due("new: covered", x.covered(instruction, side), false);
            }
        }
        Check.due("new: clear", x.clear(), 0);
    }

    private static void newObjectsTables() {
        PathExplorer x = new PathExplorer();
        Check.due("the first instruction", x.emit(33, 1, 0), 0);
        Check.due("the first HANDLER", x.handler(5, 6, 0, 0), 0);
        Check.due("another object's", new PathExplorer().emit(0, 0, 0), 0);
        x.method(0, 0, 2);
        Check.dueRun("no METHOD 1", x, 0, 0, BROKEN, NONE, 0, 1);
        PathExplorer y = Check.program(i(31, 9));
        Check.dueRun("no HANDLER", y, 0, 0, THROWN, 9, 0, 1);
    }

    /** "a 0 .. 3 for 1, 2, 33, 34, 0 .. 59 for 22 to 25, 5 .. 9 for 31; b 0 .. 5 for 23, 24; others any int." */
    private static void emitOperands() {
        int[] as = {MIN, -1, 0, 3, 4, 5, 9, 10, 59, 60, MAX};
        int[] bs = {MIN, -1, 0, 5, 6, MAX};
        for (int operation = 0; operation <= 34; operation++) {
            boolean small = operation == 1 || operation == 2 || operation == 33 || operation == 34;
            boolean jump = operation >= 22 && operation <= 25;
            boolean raise = operation == 31;
            boolean compares = operation == 23 || operation == 24;
            PathExplorer x = new PathExplorer();
            for (int a : as) {
                for (int b : bs) {
                    boolean fits = (!small || a >= 0 && a <= 3) && (!jump || a >= 0 && a <= 59)
                        && (!raise || a >= 5 && a <= 9) && (!compares || b >= 0 && b <= 5);
                    x.clear();
                    String call = "emit(" + operation + ", " + a + ", " + b + ")";
                    Check.due(call, x.emit(operation, a, b), fits ? 0 : REFUSED);
                    Check.due("count(0) behind " + call, x.count(0), fits ? 1 : 0);
                    Check.due("emit behind " + call, x.emit(0, 0, 0), fits ? 1 : 0);
                }
            }
        }
    }

    /** "operation 0 .. 34" */
    private static void emitOperations() {
        PathExplorer x = new PathExplorer();
        int[] none = {MIN, -2, -1, 35, 36, MAX};
        for (int operation : none) {
            Check.due("emit(" + operation + ")", x.emit(operation, 5, 5), REFUSED);
            Check.due("no instruction came", x.count(0), 0);
        }
        Check.due("emit(0)", x.emit(0, 5, 5), 0);
        Check.due("emit(34)", x.emit(34, 3, 5), 1);
        Check.due("count(0)", x.count(0), 2);
    }

    /** "Adds an instruction: its number. ... 60: FULL." */
    private static void emitFull() {
        PathExplorer x = new PathExplorer();
        for (int n = 0; n < 59; n++) {
            Check.due("emit", x.emit(0, n, 0), n);
            Check.due("count(0)", x.count(0), n + 1);
        }
        Check.due("a refused one behind 59", x.emit(1, 4, 0), REFUSED);
        Check.due("the 60th", x.emit(31, 5, 0), 59);
        Check.due("the 61st", x.emit(31, 6, 0), FULL);
        Check.due("the 61st with a wrong number", x.emit(35, 0, 0), REFUSED);
        Check.due("the 61st with a wrong a", x.emit(31, 10, 0), REFUSED);
        Check.due("still FULL", x.emit(0, 0, 0), FULL);
        Check.due("60 stay", x.count(0), 60);
        x.method(0, 59, 2);
        Check.dueRun("the 60th stays", x, 0, 0, THROWN, 5, 0, 1);
        x.method(0, 58, 2);
        Check.dueRun("so does the 59th", x, 0, 0, THROWN, 5, 0, 2);
        Check.due("clear", x.clear(), 60);
        Check.due("room again", x.emit(0, 0, 0), 0);
    }

    /** "Method m 0 .. 3 begins at instruction start 0 .. 59 and has so many arguments 0 .. 2 (m 0: 2): 0." */
    private static void methods() {
        int[] ms = {MIN, -1, 0, 1, 2, 3, 4, MAX};
        int[] starts = {MIN, -1, 0, 59, 60, MAX};
        int[] counts = {MIN, -1, 0, 1, 2, 3, MAX};
        PathExplorer x = new PathExplorer();
        for (int m : ms) {
            for (int start : starts) {
                for (int count : counts) {
                    boolean fits = m >= 0 && m <= 3 && start >= 0 && start <= 59
                        && count >= (m == 0 ? 2 : 0) && count <= 2;
                    Check.due("method(" + m + ", " + start + ", " + count + ")",
                        x.method(m, start, count), fits ? 0 : REFUSED);
                }
            }
        }
    }

    /** The last definition is the one that counts, and a refused one is none. */
    private static void methodsAnew() {
        PathExplorer x = new PathExplorer();
        Check.emit(x, i(1, 0), i(32), i(0, 22), i(32));
        Check.due("an ENTRY behind the instructions", x.method(0, 59, 2), 0);
        Check.dueRun("there is no instruction 59", x, 11, 0, BROKEN, NONE, 0, 1);
        Check.due("an ENTRY at 0", x.method(0, 0, 2), 0);
        Check.dueRun("it begins at 0", x, 11, 0, RETURNED, 11, 0, 2);
        Check.due("another one", x.method(0, 2, 2), 0);
        Check.dueRun("it begins at 2", x, 11, 0, RETURNED, 22, 0, 2);
        int[][] wrong = {{0, 60, 2}, {0, -1, 2}, {0, 0, 1}, {0, 0, 3}};
        for (int[] m : wrong) {
            Check.due("a refused one", x.method(m[0], m[1], m[2]), REFUSED);
            Check.dueRun("it begins at 2 as before", x, 11, 0, RETURNED, 22, 0, 2);
        }
        for (int m = 1; m < 4; m++) {
            PathExplorer y = Check.program(i(0, 5), i(33, m), i(32), i(1, 0), i(32), i(0, 6), i(32));
            y.method(m, 3, 1);
            Check.dueRun("METHOD " + m, y, 0, 0, RETURNED, 5, 0, 5);
            Check.due("a refused one", y.method(m, 5, 3), REFUSED);
            Check.due("a refused one", y.method(m, 60, 0), REFUSED);
            Check.due("a refused one", y.method(m + 4, 5, 0), REFUSED);
            Check.dueRun("METHOD " + m + " as before", y, 0, 0, RETURNED, 5, 0, 5);
            Check.due("another one", y.method(m, 3, 0), 0);
            Check.dueRun("METHOD " + m + " without an argument", y, 0, 0, RETURNED, 0, 0, 5);
            Check.due("another one", y.method(m, 5, 0), 0);
            Check.dueRun("METHOD " + m + " elsewhere", y, 0, 0, RETURNED, 6, 0, 5);
        }
    }

    /** "from, to, place 0 .. 60, kind 0 .. 9: its number, from 0." */
    private static void handlers() {
        int[][] rows = {
            {MIN, REFUSED, REFUSED}, {-1, REFUSED, REFUSED}, {0, 0, 0}, {9, 0, 0}, {10, 0, REFUSED}, {59, 0, REFUSED},
            {60, 0, REFUSED}, {61, REFUSED, REFUSED}, {MAX, REFUSED, REFUSED},
        };
        for (int[] row : rows) {
            for (int argument = 0; argument < 4; argument++) {
                PathExplorer x = new PathExplorer();
                int[] h = {3, 3, 3, 3};
                h[argument] = row[0];
                int answer = argument < 3 ? row[1] : row[2];
                String call = "handler(" + h[0] + ", " + h[1] + ", " + h[2] + ", " + h[3] + ")";
                Check.due(call, x.handler(h[0], h[1], h[2], h[3]), answer);
                Check.due("count(1) behind " + call, x.count(1), answer + 1);
                Check.due("handler behind " + call, x.handler(0, 0, 0, 0), answer + 1);
            }
        }
    }

    /** "6: FULL." */
    private static void handlersFull() {
        PathExplorer x = Check.program(i(31, 6), i(32));
        for (int h = 0; h < 6; h++) {
            Check.due("a refused one", x.handler(0, 1, 1, 10), REFUSED);
            Check.due("handler", x.handler(60, 0, 60, h), h);
            Check.due("count(1)", x.count(1), h + 1);
        }
        Check.due("the 7th", x.handler(0, 1, 1, 0), FULL);
        Check.due("the 7th with a wrong kind", x.handler(0, 1, 1, 10), REFUSED);
        Check.due("the 7th with a wrong place", x.handler(0, 1, 61, 0), REFUSED);
        Check.due("still FULL", x.handler(0, 1, 1, 0), FULL);
        Check.due("6 stay", x.count(1), 6);
        Check.dueRun("none of them is for 0", x, 0, 0, THROWN, 6, 0, 1);
        x.clear();
        Check.due("none behind clear", x.count(1), 0);
        Check.due("numbered from 0 again", x.handler(0, 1, 1, 0), 0);
    }

    /** Whether explore finds the number among P's (i 0) or Q's (i 1): it is lo, or an other way to it is WORK. */
    private static boolean isInput(PathExplorer x, int i, int number) {
        x.clear();
        Check.emit(x, i(1, i), i(0, number), i(24, 4, 0), i(31, 5), i(31, 6));
        x.method(0, 0, 2);
        x.explore(0);
        return x.covered(2, 1);
    }

    private static void dueRange(PathExplorer x, int i, int lo, int hi) {
        String name = "RANGE " + i + " from " + lo + " to " + hi;
        Check.due(name + ": its first", isInput(x, i, lo), true);
        Check.due(name + ": the first TEST's", x.test(0, i), lo);
        Check.due(name + ": its last", isInput(x, i, hi), true);
        Check.due(name + ": one before", isInput(x, i, lo - 1), false);
        Check.due(name + ": one behind", isInput(x, i, hi + 1), false);
    }

    /** "The RANGE of P (i 0) or Q (i 1) becomes lo .. hi: 0." */
    private static void rangesTaken() {
        int[][] rows = {
            {0, 0}, {0, 15}, {-15, 0}, {-8, 7}, {5, 6}, {MIN, MIN}, {MIN, MIN + 15}, {MAX, MAX}, {MAX - 15, MAX},
            {MIN + 1, MIN + 16}, {MAX - 16, MAX - 1},
        };
        for (int[] row : rows) {
            for (int i = 0; i < 2; i++) {
                PathExplorer x = new PathExplorer();
                Check.due("range(" + i + ", " + row[0] + ", " + row[1] + ")", x.range(i, row[0], row[1]), 0);
                dueRange(x, i, row[0], row[1]);
            }
        }
    }

    /** "lo above hi, or more than 16 values: REFUSED." */
    private static void rangesRefused() {
        int[][] rows = {
            {1, 0}, {0, -1}, {MAX, MIN}, {MAX, MAX - 1}, {MIN + 1, MIN}, {MAX - 14, MIN}, {MAX, MIN + 14},
            {0, 16}, {-8, 8}, {-16, 0}, {MIN, MIN + 16}, {MAX - 16, MAX}, {MIN, MAX}, {0, MAX}, {MIN, 0}, {MIN, -1},
            {-1, MAX}, {-2, MAX - 1}, {MIN + 1, MAX},
        };
        for (int[] row : rows) {
            for (int i = 0; i < 2; i++) {
                PathExplorer x = new PathExplorer();
                String call = "range(" + i + ", " + row[0] + ", " + row[1] + ")";
                Check.due(call, x.range(i, row[0], row[1]), REFUSED);
                dueRange(x, i, 0, 3);
                x.range(i, 4, 9);
                Check.due(call, x.range(i, row[0], row[1]), REFUSED);
                dueRange(x, i, 4, 9);
            }
        }
        int[] none = {MIN, -1, 2, MAX};
        for (int i : none) {
            PathExplorer x = new PathExplorer();
            Check.due("range(" + i + ", 5, 6)", x.range(i, 5, 6), REFUSED);
            dueRange(x, 0, 0, 3);
            dueRange(x, 1, 0, 3);
        }
    }

    /** "whose RANGES are lo .. hi, at first 0 .. 3" */
    private static void rangesAtFirst() {
        dueRange(new PathExplorer(), 0, 0, 3);
        dueRange(new PathExplorer(), 1, 0, 3);
    }

    /** The RANGE of one is not the other's. */
    private static void rangesApart() {
        PathExplorer x = new PathExplorer();
        x.range(0, -5, 10);
        dueRange(x, 1, 0, 3);
        x.range(1, 7, 8);
        dueRange(x, 0, -5, 10);
        dueRange(x, 1, 7, 8);
        x.range(0, 6, 6);
        dueRange(x, 0, 6, 6);
        dueRange(x, 1, 7, 8);
    }

    /** "All instructions, METHODS and HANDLERS go; the RANGES ... stay" */
    private static void clearing() {
        PathExplorer x = Check.program(i(1, 0), i(23, 0, 1), i(31, 7));
        x.method(1, 0, 0);
        x.method(2, 0, 0);
        x.method(3, 0, 0);
        x.handler(0, 60, 0, 0);
        x.range(0, 2, 3);
        x.range(1, -4, 5);
        Check.due("clear", x.clear(), 3);
        Check.due("no instructions", x.count(0), 0);
        Check.due("no HANDLERS", x.count(1), 0);
        Check.due("no ENTRY to run", x.run(1, 1), REFUSED);
        Check.due("no ENTRY to explore", x.explore(1), REFUSED);
        for (int m = 1; m < 4; m++) {
            x.clear();
            Check.due("numbers from 0", x.emit(33, m, 0), 0);
            x.method(0, 0, 2);
            Check.dueRun("METHOD " + m + " went", x, 0, 0, BROKEN, NONE, 0, 1);
        }
        x.clear();
        Check.emit(x, i(31, 6));
        x.method(0, 0, 2);
        Check.dueRun("the HANDLER went", x, 0, 0, THROWN, 6, 0, 1);
        dueRange(x, 0, 2, 3);
        dueRange(x, 1, -4, 5);
    }

    /** "and what was found, stay" */
    private static void clearingKeepsFound() {
        PathExplorer x = Check.program(i(1, 0), i(23, 3, 4), i(31, 7), i(1, 0), i(23, 5, 2), i(31, 8));
        x.range(0, 0, 1);
        x.explore(0);
        x.run(0, 0);
        Check.due("clear", x.clear(), 6);
        for (int again = 0; again < 2; again++) {
            Check.due("the value", x.value(), 7);
            Check.due("the TESTS", x.count(2), 2);
            Check.due("the INFEASIBLE ones", x.count(3), 1);
            Check.due("the run's EVENTS", x.count(4), 1);
            Check.due("the run's STEPS", x.count(5), 3);
            Check.due("the most WORK", x.count(6), 1);
            Check.due("TEST 1: P", x.test(1, 0), 1);
            Check.due("TEST 1: outcome", x.test(1, 2), THROWN);
            Check.due("TEST 1: value", x.test(1, 3), 8);
            Check.due("TEST 1: EVENTS", x.test(1, 4), 2);
            Check.due("EVENT 1 of TEST 1", x.event(1, 1, 0), 4);
            Check.due("covered", x.covered(4, 0), true);
            Check.due("not covered", x.covered(4, 1), false);
            Check.due("COMPLETE", x.complete(), true);
            // Other instructions in their places change nothing of it.
            Check.emit(x, i(25), i(25), i(25), i(25), i(25));
        }
    }

    /** "how many instructions there were." */
    private static void clearingSizes() {
        PathExplorer x = new PathExplorer();
        int[] sizes = {0, 1, 2, 59, 60, 0};
        for (int size : sizes) {
            for (int n = 0; n < size; n++) {
                x.emit(0, 0, 0);
            }
            Check.due("clear", x.clear(), size);
        }
        for (int n = 0; n < 61; n++) {
            x.emit(0, 0, 0);
        }
        Check.due("one that is FULL was none", x.clear(), 60);
        x.emit(35, 0, 0);
        x.emit(1, -1, 0);
        Check.due("refused ones were none", x.clear(), 0);
    }
}
