/** Promises 7 and 8, and of 14 the EVENTS and STEPS of the last run. */
public final class RunTest {
    private static final int RETURNED = PathExplorer.RETURNED;
    private static final int THROWN = PathExplorer.THROWN;
    private static final int TIRED = PathExplorer.TIRED;
    private static final int BROKEN = PathExplorer.BROKEN;
    private static final int DEEP = PathExplorer.DEEP;
    private static final int LIMIT = PathExplorer.LIMIT;
    private static final long NONE = PathExplorer.NONE;
    private static final int MIN = Integer.MIN_VALUE;
    private static final int MAX = Integer.MAX_VALUE;

    public static void main(String[] args) {
        arithmetic();
        conversions();
        stackOperations();
        localOperations();
        comparisons();
        switches();
        arrays();
        calls();
        raising();
        raisingThroughCalls();
        tired();
        brokenStacks();
        fullStacks();
        brokenSorts();
        brokenPlaces();
        deep();
        limit();
        orderOfEnds();
        lastRun();
        Check.end();
    }

    private static int[] i(int... row) {
        return row;
    }

    private static void arithmetic() {
        int[] numbers = {0, 1, -1, 2, 7, -7, 31, 32, 33, 65535, MIN, MAX};
        for (int x : numbers) {
            for (int y : numbers) {
                int[] results = {
                    x + y, x - y, x * y, y == 0 ? 0 : x / y, y == 0 ? 0 : x % y, x & y, x | y, x ^ y,
                    x << (y & 31), x >> (y & 31), x >>> (y & 31),
                };
                for (int n = 0; n < results.length; n++) {
                    int operation = 3 + n;
                    boolean divides = operation == 6 || operation == 7;
                    boolean raises = divides && y == 0;
                    PathExplorer machine = Check.program(i(1, 0), i(1, 1), i(operation), i(32));
                    Check.dueRun(x + " operation " + operation + " " + y, machine, x, y,
                        raises ? THROWN : RETURNED, raises ? 1 : results[n], divides ? 1 : 0, raises ? 3 : 4);
                }
            }
        }
    }

    private static void conversions() {
        int[] numbers = {0, 1, -1, 127, 128, 255, 256, 32767, 32768, 65535, 65536, -32769, MIN, MAX};
        for (int x : numbers) {
            int[] results = {-x, (byte) x, (char) x, (short) x};
            for (int n = 0; n < 4; n++) {
                PathExplorer machine = Check.program(i(1, 0), i(14 + n), i(32));
                Check.dueRun("operation " + (14 + n) + " of " + x, machine, x, 0, RETURNED, results[n], 0, 3);
            }
        }
    }

    private static void stackOperations() {
        PathExplorer dup = Check.program(i(1, 0), i(18), i(5), i(32));
        Check.dueRun("DUP", dup, 9, 0, RETURNED, 81, 0, 4);
        // y, x, y: y - (x - y)
        PathExplorer x1 = Check.program(i(1, 0), i(1, 1), i(19), i(4), i(4), i(32));
        Check.dueRun("DUP X1", x1, 100, 7, RETURNED, 7 - (100 - 7), 0, 6);
        PathExplorer swap = Check.program(i(1, 0), i(1, 1), i(20), i(4), i(32));
        Check.dueRun("SWAP", swap, 100, 7, RETURNED, 7 - 100, 0, 5);
        PathExplorer pop = Check.program(i(1, 0), i(1, 1), i(21), i(32));
        Check.dueRun("POP", pop, 100, 7, RETURNED, 100, 0, 4);
        PathExplorer push = Check.program(i(0, MIN), i(32));
        Check.dueRun("PUSH", push, 100, 7, RETURNED, MIN, 0, 2);
        PathExplorer references = Check.program(i(30), i(18), i(20), i(19), i(21), i(21), i(21), i(0, 4), i(32));
        Check.dueRun("REFERENCES are moved like INTS", references, 0, 0, RETURNED, 4, 0, 9);
    }

    private static void localOperations() {
        PathExplorer fresh = Check.program(i(1, 2), i(1, 3), i(9), i(32));
        Check.dueRun("locals 2 and 3 are 0 at first", fresh, 5, 6, RETURNED, 0, 0, 4);
        PathExplorer store = Check.program(i(0, 8), i(2, 3), i(1, 0), i(2, 2), i(1, 3), i(1, 2), i(4), i(32));
        Check.dueRun("STORE", store, 5, 6, RETURNED, 3, 0, 8);
        PathExplorer add = Check.program(i(34, 1, -3), i(1, 1), i(32));
        Check.dueRun("ADD to a local", add, 5, 6, RETURNED, 3, 0, 3);
        Check.dueRun("ADD to a local wraps", add, 5, MIN, RETURNED, MAX - 2, 0, 3);
    }

    private static void comparisons() {
        int[][] pairs = {{0, 0}, {1, 0}, {-1, 0}, {MIN, 0}, {MAX, 0}, {MIN, MAX}, {MAX, MIN}, {5, 5}, {4, 5}};
        for (int[] pair : pairs) {
            int x = pair[0];
            int y = pair[1];
            boolean[] holds = {x == y, x != y, x < y, x >= y, x > y, x <= y};
            for (int b = 0; b < 6; b++) {
                String name = x + " compared (" + b + ") with " + y;
                PathExplorer two = Check.program(i(1, 0), i(1, 1), i(24, 5, b), i(0, 10), i(32), i(0, 20), i(32));
                Check.dueRun(name, two, x, y, RETURNED, holds[b] ? 20 : 10, 1, 5);
                if (y == 0) {
                    PathExplorer one = Check.program(i(1, 0), i(23, 4, b), i(0, 10), i(32), i(0, 20), i(32));
                    Check.dueRun(name, one, x, y, RETURNED, holds[b] ? 20 : 10, 1, 4);
                }
            }
        }
    }

    private static void switches() {
        int[] bases = {0, 5, -3, MAX, MIN, MAX - 1};
        for (int base : bases) {
            PathExplorer x = Check.program(
                i(1, 0), i(25, 3, base), i(32), i(22, 7), i(22, 9), i(22, 11), i(22, 13),
                i(0, 0), i(32), i(0, 1), i(32), i(0, 2), i(32), i(0, 3), i(32));
            for (int offset = -2; offset <= 4; offset++) {
                int way = offset >= 0 && offset <= 2 ? offset : 3;
                Check.dueRun("SWITCH from " + base + " by " + offset, x, base + offset, 0, RETURNED, way, 1, 5);
            }
            Check.dueRun("SWITCH far off", x, base + MIN, 0, RETURNED, 3, 1, 5);
        }
        PathExplorer late = Check.program(i(1, 0), i(25, 59, 0));
        Check.dueRun("SWITCH behind the instructions", late, 9, 0, BROKEN, NONE, 1, 3);
    }

    private static void arrays() {
        PathExplorer length = Check.program(i(1, 0), i(26), i(29), i(32));
        Check.dueRun("LENGTH 0", length, 0, 0, RETURNED, 0, 2, 4);
        Check.dueRun("LENGTH 8", length, 8, 0, RETURNED, 8, 2, 4);
        Check.dueRun("NEW of 9", length, 9, 0, LIMIT, NONE, 1, 2);
        Check.dueRun("NEW below 0", length, -1, 0, THROWN, 3, 1, 2);
        PathExplorer cells = Check.program(
            i(0, 3), i(26), i(2, 2), i(1, 2), i(1, 0), i(0, 77), i(28), i(1, 2), i(1, 1), i(27), i(32));
        Check.dueRun("the cell that was stored", cells, 2, 2, RETURNED, 77, 4, 11);
        Check.dueRun("a cell that was not", cells, 2, 0, RETURNED, 0, 4, 11);
        Check.dueRun("ASTORE below", cells, -1, 0, THROWN, 2, 1, 7);
        Check.dueRun("ASTORE above", cells, 3, 0, THROWN, 2, 1, 7);
        Check.dueRun("ALOAD below", cells, 0, -1, THROWN, 2, 3, 10);
        Check.dueRun("ALOAD above", cells, 0, 3, THROWN, 2, 3, 10);
        Check.due("ALOAD of MAX", cells.run(0, MAX), THROWN);
        Check.due("ALOAD of MIN", cells.run(0, MIN), THROWN);
        PathExplorer two = Check.program(
            i(0, 2), i(26), i(2, 2), i(0, 2), i(26), i(2, 3), i(1, 2), i(0, 1), i(0, 5), i(28),
            i(1, 3), i(0, 1), i(27), i(1, 2), i(0, 1), i(27), i(0, 100), i(5), i(3), i(32));
        Check.dueRun("two arrays have cells of their own", two, 0, 0, RETURNED, 500, 0, 20);
        PathExplorer shared = Check.program(
            i(0, 2), i(26), i(18), i(2, 2), i(0, 0), i(0, 9), i(28), i(1, 2), i(0, 0), i(27), i(32));
        Check.dueRun("a copied REFERENCE is the same array", shared, 0, 0, RETURNED, 9, 0, 11);
        PathExplorer again = Check.program(
            i(0, 1), i(26), i(2, 2), i(1, 2), i(0, 0), i(27), i(1, 2), i(0, 0), i(0, 9), i(28), i(32));
        again.run(0, 0);
        Check.dueRun("a new RUN has new arrays", again, 0, 0, RETURNED, 0, 0, 11);
        Check.dueRun("LENGTH of null", Check.program(i(30), i(29)), 0, 0, THROWN, 4, 0, 2);
        Check.dueRun("ALOAD of null", Check.program(i(30), i(1, 0), i(27)), 0, 0, THROWN, 4, 0, 3);
        Check.dueRun("ASTORE in null", Check.program(i(30), i(1, 0), i(0), i(28)), -5, 0, THROWN, 4, 0, 4);
    }

    private static void calls() {
        PathExplorer x = Check.program(
            i(0, 1000), i(1, 0), i(1, 1), i(33, 2), i(3), i(32),
            i(1, 0), i(0, 10), i(5), i(1, 1), i(3), i(1, 2), i(3), i(32));
        x.method(2, 6, 2);
        Check.dueRun("two arguments, the last on top", x, 4, 3, RETURNED, 1043, 0, 14);
        PathExplorer own = Check.program(
            i(0, 5), i(2, 2), i(1, 0), i(33, 1), i(1, 2), i(3), i(1, 0), i(3), i(32),
            i(0, 9), i(2, 0), i(0, 9), i(2, 2), i(0, 1), i(32));
        own.method(1, 9, 1);
        Check.dueRun("each FRAME has its own locals", own, 50, 0, RETURNED, 56, 0, 15);
        PathExplorer none = Check.program(i(33, 3), i(32), i(1, 0), i(1, 1), i(9), i(32));
        none.method(3, 2, 0);
        Check.dueRun("no arguments: locals are 0", none, 50, 60, RETURNED, 0, 0, 6);
        PathExplorer reference = Check.program(i(0, 4), i(26), i(33, 1), i(32), i(1, 0), i(29), i(32));
        reference.method(1, 4, 1);
        Check.dueRun("a REFERENCE as argument", reference, 0, 0, RETURNED, 4, 0, 7);
        PathExplorer entry = Check.program(
            i(1, 0), i(23, 4, 4), i(0, 7), i(32), i(0, 0), i(1, 1), i(33, 0), i(32));
        Check.dueRun("the ENTRY may be called, and a PUSHED argument is not bound", entry, 1, 5, RETURNED, 7, 1, 10);
        Check.dueRun("an undefined METHOD", Check.program(i(33, 1)), 0, 0, BROKEN, NONE, 0, 1);
    }

    private static void raising() {
        for (int e = 5; e <= 9; e++) {
            Check.dueRun("THROW", Check.program(i(31, e)), 0, 0, THROWN, e, 0, 1);
            for (int kind = 0; kind <= 9; kind++) {
                PathExplorer x = Check.program(i(0, 1), i(31, e), i(32));
                x.handler(1, 2, 2, kind);
                boolean caught = kind == 0 || kind == e;
                Check.dueRun("THROW " + e + " with kind " + kind, x, 0, 0,
                    caught ? RETURNED : THROWN, e, 0, caught ? 3 : 2);
            }
        }
        int[][] spans = {{0, 1, 0}, {1, 1, 0}, {1, 2, 1}, {0, 60, 1}, {2, 60, 0}, {2, 1, 0}, {60, 0, 0}};
        for (int[] span : spans) {
            PathExplorer x = Check.program(i(0, 1), i(31, 6), i(32));
            x.handler(span[0], span[1], 2, 0);
            Check.due("handler(" + span[0] + ", " + span[1] + ")", x.run(0, 0), span[2] == 1 ? RETURNED : THROWN);
        }
        PathExplorer first = Check.program(i(31, 6), i(0, 10), i(32), i(0, 20), i(32));
        first.handler(0, 1, 1, 7);
        first.handler(0, 1, 3, 6);
        first.handler(0, 1, 1, 0);
        Check.dueRun("the first HANDLER that fits", first, 0, 0, RETURNED, 20, 0, 3);
        PathExplorer height = Check.program(i(0, 1), i(0, 2), i(31, 6), i(3), i(32));
        height.handler(0, 3, 3, 0);
        Check.dueRun("the stack is just e", height, 0, 0, BROKEN, NONE, 0, 4);
        PathExplorer locals = Check.program(i(0, 40), i(2, 2), i(1, 0), i(0, 0), i(6), i(1, 2), i(3), i(32));
        locals.handler(0, 5, 5, 1);
        Check.dueRun("the locals stay, e is pushed", locals, 1, 0, RETURNED, 41, 0, 8);
        PathExplorer nowhere = Check.program(i(31, 6));
        nowhere.handler(0, 60, 60, 0);
        Check.dueRun("a HANDLER at no instruction", nowhere, 0, 0, BROKEN, NONE, 0, 2);
        PathExplorer loop = Check.program(i(31, 6));
        loop.handler(0, 1, 0, 0);
        Check.dueRun("a HANDLER that raises again", loop, 0, 0, TIRED, NONE, 0, 150);
    }

    private static void raisingThroughCalls() {
        int[][] code = {
            i(0, 1), i(33, 1), i(32), i(0, 2), i(33, 2), i(32), i(31, 8), i(34, 0, 0), i(32),
        };
        PathExplorer open = Check.program(code);
        open.method(1, 3, 0);
        open.method(2, 6, 0);
        Check.dueRun("through three FRAMES", open, 0, 0, THROWN, 8, 0, 5);
        PathExplorer middle = Check.program(code);
        middle.method(1, 3, 0);
        middle.method(2, 6, 0);
        middle.handler(4, 5, 5, 8);
        Check.dueRun("caught at the second CALL", middle, 0, 0, RETURNED, 8, 0, 7);
        PathExplorer outer = Check.program(code);
        outer.method(1, 3, 0);
        outer.method(2, 6, 0);
        outer.handler(1, 2, 7, 0);
        Check.dueRun("caught at the first CALL", outer, 0, 0, RETURNED, 8, 0, 7);
        PathExplorer behind = Check.program(code);
        behind.method(1, 3, 0);
        behind.method(2, 6, 0);
        behind.handler(2, 3, 8, 0);
        behind.handler(5, 6, 8, 0);
        Check.dueRun("not caught behind the CALLS", behind, 0, 0, THROWN, 8, 0, 5);
        PathExplorer inner = Check.program(code);
        inner.method(1, 3, 0);
        inner.method(2, 6, 0);
        inner.handler(0, 3, 2, 0);
        inner.handler(6, 7, 8, 0);
        Check.dueRun("the inner FRAME comes first", inner, 0, 0, RETURNED, 8, 0, 8);
    }

    private static void tired() {
        // 147 and 3: a loop of three STEPS, and one that ends just in time.
        PathExplorer x = Check.program(i(34, 0, -1), i(1, 0), i(23, 0, 1), i(0, 6), i(32));
        Check.dueRun("150 STEPS are enough", Check.program(steps(148)), 0, 0, RETURNED, 5, 0, 150);
        Check.dueRun("151 are not", Check.program(steps(149)), 0, 0, TIRED, NONE, 0, 150);
        Check.dueRun("a long loop", x, 50, 0, TIRED, NONE, 20, 150);
        Check.dueRun("a shorter one", x, 49, 0, RETURNED, 6, 20, 149);
        Check.dueRun("a short one", x, 20, 0, RETURNED, 6, 20, 62);
        Check.dueRun("an endless one", Check.program(i(22, 0)), 0, 0, TIRED, NONE, 0, 150);
    }

    /** A PUSH and a RETURN with so many STEPS before them. */
    private static int[][] steps(int before) {
        int loops = before / 3 - 10;
        int rest = before - 2 - loops * 3;
        int[][] code = new int[60][];
        for (int n = 0; n < 60; n++) {
            code[n] = i(34, 1, 0);
        }
        code[0] = i(0, loops);
        code[1] = i(2, 2);
        code[2] = i(34, 2, -1);
        code[3] = i(1, 2);
        code[4] = i(23, 2, 1);
        code[5 + rest] = i(0, 5);
        code[6 + rest] = i(32);
        return code;
    }

    private static void brokenStacks() {
        int[] takes = {
            0, 0, 1, 2, 2, 2, 2, 2, 2, 2, 2, 2, 2, 2, 1, 1, 1, 1,
            1, 2, 2, 1, 0, 1, 2, 1, 1, 2, 3, 1, 0, 0, 1, 2, 0,
        };
        for (int operation = 0; operation <= 34; operation++) {
            if (takes[operation] > 0) {
                boolean first = operation >= 27 && operation <= 29;
                PathExplorer x = new PathExplorer();
                x.method(0, 0, 2);
                x.method(1, 0, 2);
                for (int n = 1; n < takes[operation]; n++) {
                    Check.emit(x, n == 1 && first ? i(30) : i(0, 1));
                }
                Check.emit(x, i(operation, operation == 33 ? 1 : 0));
                Check.dueRun("operation " + operation + " on a short stack", x, 1, 1, BROKEN, NONE, 0, takes[operation]);
            }
        }
        int[] grows = {0, 1, 18, 19, 30};
        for (int operation : grows) {
            PathExplorer x = Check.program(
                i(0), i(0), i(0), i(0), i(0), i(0), i(0), i(operation), i(operation), i(32));
            Check.dueRun("operation " + operation + " as the 9th VALUE", x, 1, 1, BROKEN, NONE, 0, 9);
        }
        PathExplorer full = Check.program(
            i(0), i(0), i(0), i(0), i(0), i(0), i(0), i(33, 1), i(32), i(0, 3), i(32));
        full.method(1, 9, 0);
        Check.dueRun("RETURN puts the 8th VALUE", full, 0, 0, RETURNED, 3, 0, 11);
        PathExplorer over = Check.program(
            i(0), i(0), i(0), i(0), i(0), i(0), i(0), i(0), i(33, 1), i(32), i(0, 3), i(32));
        over.method(1, 10, 0);
        Check.dueRun("RETURN puts the 9th VALUE", over, 0, 0, BROKEN, NONE, 0, 11);
        PathExplorer alone = Check.program(
            i(0), i(0), i(0), i(0), i(0), i(0), i(0), i(0, 6), i(32));
        Check.dueRun("RETURN with a full stack of its own", alone, 0, 0, RETURNED, 6, 0, 9);
    }

    /** What takes as much as it puts, or puts nothing, can be done on a stack of eight. */
    private static void fullStacks() {
        int[] operations = {
            2, 3, 4, 5, 6, 7, 8, 9, 10, 11, 12, 13, 14, 15, 16, 17, 20, 21, 22, 23, 24, 25, 26, 34,
        };
        for (int operation : operations) {
            PathExplorer x = Check.program(
                i(0, 1), i(0, 1), i(0, 1), i(0, 1), i(0, 1), i(0, 1), i(0, 1), i(0, 1),
                i(operation, operation >= 22 && operation <= 25 ? 9 : 0), i(22, 10), i(22, 11), i(31, 7));
            Check.due("operation " + operation + " on a full stack", x.run(0, 0), THROWN);
            Check.due("operation " + operation + " on a full stack", x.value(), 7);
        }
        int[][][] arrays = {
            {i(0, 1), i(26), i(29)}, {i(30), i(21), i(31, 7)},
            {i(0, 1), i(26), i(0, 0), i(27)}, {i(0, 1), i(26), i(0, 0), i(0, 5), i(28)},
        };
        for (int[][] rows : arrays) {
            PathExplorer x = new PathExplorer();
            x.method(0, 0, 2);
            int below = rows.length == 5 ? 5 : rows.length == 4 ? 6 : 7;
            for (int n = 0; n < below; n++) {
                Check.emit(x, i(0, 1));
            }
            Check.emit(x, rows);
            Check.emit(x, i(31, 7));
            Check.due("arrays on a full stack", x.run(0, 0), THROWN);
            Check.due("arrays on a full stack", x.value(), 7);
        }
        PathExplorer call = Check.program(
            i(0, 1), i(0, 1), i(0, 1), i(0, 1), i(0, 1), i(0, 1), i(0, 1), i(0, 1), i(33, 1), i(31, 7));
        call.method(1, 9, 0);
        Check.dueRun("CALL on a full stack", call, 0, 0, THROWN, 7, 0, 10);
    }

    private static void brokenSorts() {
        for (int operation = 3; operation <= 13; operation++) {
            Check.dueRun("REFERENCE first", Check.program(i(30), i(0, 1), i(operation)), 0, 0, BROKEN, NONE, 0, 3);
            Check.dueRun("REFERENCE second", Check.program(i(0, 1), i(30), i(operation)), 0, 0, BROKEN, NONE, 0, 3);
        }
        int[] ones = {14, 15, 16, 17, 23, 25, 26, 32};
        for (int operation : ones) {
            Check.dueRun("REFERENCE for " + operation, Check.program(i(30), i(operation)), 0, 0, BROKEN, NONE, 0, 2);
        }
        Check.dueRun("IFCMP first", Check.program(i(30), i(0), i(24)), 0, 0, BROKEN, NONE, 0, 3);
        Check.dueRun("IFCMP second", Check.program(i(0), i(30), i(24)), 0, 0, BROKEN, NONE, 0, 3);
        Check.dueRun("LENGTH of INT", Check.program(i(1, 0), i(29)), 0, 0, BROKEN, NONE, 0, 2);
        Check.dueRun("ALOAD of INT", Check.program(i(1, 0), i(1, 0), i(27)), 0, 0, BROKEN, NONE, 0, 3);
        Check.dueRun("ALOAD at null", Check.program(i(30), i(30), i(27)), 0, 0, BROKEN, NONE, 0, 3);
        Check.dueRun("ASTORE in INT", Check.program(i(0), i(0), i(0), i(28)), 0, 0, BROKEN, NONE, 0, 4);
        Check.dueRun("ASTORE at null", Check.program(i(30), i(30), i(0), i(28)), 0, 0, BROKEN, NONE, 0, 4);
        Check.dueRun("ASTORE of null", Check.program(i(30), i(0), i(30), i(28)), 0, 0, BROKEN, NONE, 0, 4);
        Check.dueRun("ADD to null", Check.program(i(30), i(2, 1), i(34, 1, 0)), 0, 0, BROKEN, NONE, 0, 3);
        PathExplorer called = Check.program(i(33, 1), i(32), i(30), i(32));
        called.method(1, 2, 0);
        Check.dueRun("RETURN of null in a CALL", called, 0, 0, BROKEN, NONE, 0, 3);
    }

    private static void brokenPlaces() {
        Check.dueRun("no instructions", Check.program(), 0, 0, BROKEN, NONE, 0, 1);
        Check.dueRun("behind the last", Check.program(i(0)), 0, 0, BROKEN, NONE, 0, 2);
        Check.dueRun("a jump too far", Check.program(i(22, 1)), 0, 0, BROKEN, NONE, 0, 2);
        PathExplorer x = Check.program(i(33, 1));
        x.method(1, 40, 0);
        Check.dueRun("a METHOD without an instruction", x, 0, 0, BROKEN, NONE, 0, 2);
    }

    private static void deep() {
        PathExplorer x = Check.program(i(33, 1), i(32));
        x.method(1, 0, 0);
        Check.dueRun("the 5th FRAME", x, 0, 0, DEEP, NONE, 0, 4);
        PathExplorer four = Check.program(
            i(33, 1), i(32), i(33, 2), i(32), i(33, 3), i(32), i(0, 5), i(32));
        four.method(1, 2, 0);
        four.method(2, 4, 0);
        four.method(3, 6, 0);
        Check.dueRun("four FRAMES", four, 0, 0, RETURNED, 5, 0, 8);
    }

    private static void limit() {
        PathExplorer x = Check.program(
            i(0, 8), i(26), i(21), i(34, 0, -1), i(1, 0), i(23, 0, 4), i(0, 1), i(32));
        Check.dueRun("eight arrays", x, 8, 0, RETURNED, 1, 8, 50);
        Check.dueRun("the 9th", x, 9, 0, LIMIT, NONE, 8, 50);
        Check.dueRun("nine cells", Check.program(i(0, 9), i(26)), 0, 0, LIMIT, NONE, 0, 2);
        Check.dueRun("many cells", Check.program(i(0, MAX), i(26)), 0, 0, LIMIT, NONE, 0, 2);
    }

    private static void orderOfEnds() {
        int[][] code = steps(148);
        code[5 + 148 - 2 - (148 / 3 - 10) * 3 + 1] = i(22, 59);
        code[59] = i(21);
        Check.dueRun("TIRED before BROKEN", Check.program(code), 0, 0, TIRED, NONE, 0, 150);
        PathExplorer lacking = Check.program(i(0), i(33, 1), i(33, 2));
        lacking.method(1, 0, 0);
        Check.dueRun("DEEP by frames alone", lacking, 0, 0, DEEP, NONE, 0, 8);
        PathExplorer undefined = Check.program(i(33, 1), i(33, 2), i(33, 3), i(33, 2), i(0));
        undefined.method(1, 1, 0);
        undefined.method(2, 2, 0);
        undefined.method(3, 3, 0);
        Check.dueRun("the 5th FRAME again", undefined, 0, 0, DEEP, NONE, 0, 4);
        undefined.method(2, 2, 1);
        Check.dueRun("BROKEN before DEEP: no argument", undefined, 0, 0, BROKEN, NONE, 0, 2);
        PathExplorer last = Check.program(i(33, 1), i(33, 2), i(33, 3), i(33, 0));
        last.method(1, 1, 0);
        last.method(2, 2, 0);
        last.method(3, 3, 0);
        Check.dueRun("BROKEN before DEEP", last, 0, 0, BROKEN, NONE, 0, 4);
        PathExplorer below = Check.program(
            i(0), i(26), i(21), i(34, 0, -1), i(1, 0), i(23, 0, 4), i(0, -1), i(26));
        Check.dueRun("below 0 makes no 9th array", below, 8, 0, THROWN, 3, 8, 50);
    }

    private static void lastRun() {
        PathExplorer x = Check.program(i(1, 0), i(1, 1), i(6), i(32));
        Check.dueRun("RETURNED", x, 7, 2, RETURNED, 3, 1, 4);
        Check.dueRun("THROWN", x, 7, 0, THROWN, 1, 1, 3);
        x.explore(0);
        Check.due("explore leaves the value", x.value(), 1);
        Check.due("explore leaves the EVENTS", x.count(4), 1);
        Check.due("explore leaves the STEPS", x.count(5), 3);
        x.clear();
        Check.due("a refused run", x.run(1, 1), PathExplorer.REFUSED);
        Check.due("leaves the value", x.value(), 1);
        Check.due("leaves the EVENTS", x.count(4), 1);
        Check.due("leaves the STEPS", x.count(5), 3);
        x.method(0, 0, 2);
        Check.dueRun("BROKEN", x, 7, 0, BROKEN, NONE, 0, 1);
    }
}
