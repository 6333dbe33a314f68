/** The list of operations in the document's Terms: what each does, and at its edges. */
public final class OperationTest {
    private static final int RETURNED = PathExplorer.RETURNED;
    private static final int THROWN = PathExplorer.THROWN;
    private static final int BROKEN = PathExplorer.BROKEN;
    private static final int LIMIT = PathExplorer.LIMIT;
    private static final long NONE = PathExplorer.NONE;
    private static final int MIN = Integer.MIN_VALUE;
    private static final int MAX = Integer.MAX_VALUE;

    public static void main(String[] args) {
        pushes();
        localOperations();
        arithmetic();
        edgesOfArithmetic();
        shifts();
        divisionsByZero();
        conversions();
        stackOperations();
        gotos();
        comparisons();
        switches();
        switchPlaces();
        newArrays();
        cells();
        cellsOfTheirOwn();
        nulls();
        returns();
        unusedOperands();
        Check.end();
    }

    private static int[] i(int... row) {
        return row;
    }

    /** "0 PUSH a." */
    private static void pushes() {
        int[] numbers = {MIN, -1, 0, 1, MAX};
        for (int a : numbers) {
            Check.dueRun("PUSH " + a, Check.program(i(0, a), i(32)), 100, 7, RETURNED, a, 0, 2);
        }
    }

    /** "1 LOAD local a. 2 takes x: STORE in local a." "34 ADD the INT b to local a." */
    private static void localOperations() {
        int[] atFirst = {50, 60, 0, 0};
        for (int local = 0; local < 4; local++) {
            Check.dueRun("LOAD " + local, Check.program(i(1, local), i(32)), 50, 60, RETURNED, atFirst[local], 0, 2);
            PathExplorer store = Check.program(i(0, 8), i(2, local), i(1, local), i(32));
            Check.dueRun("STORE " + local, store, 50, 60, RETURNED, 8, 0, 4);
            PathExplorer add = Check.program(i(34, local, -3), i(1, local), i(32));
            Check.dueRun("ADD to " + local, add, 50, 60, RETURNED, atFirst[local] - 3, 0, 3);
            for (int other = 0; other < 4; other++) {
                if (other != local) {
                    PathExplorer x = Check.program(i(0, 8), i(2, local), i(34, local, 5), i(1, other), i(32));
                    Check.dueRun("STORE " + local + " leaves " + other, x, 50, 60, RETURNED, atFirst[other], 0, 5);
                }
            }
        }
        int[][] sums = {
            {MAX, 1, MIN}, {MIN, -1, MAX}, {MAX, MAX, -2}, {MIN, MIN, 0}, {5, 0, 5}, {0, MAX, MAX}, {0, MIN, MIN},
        };
        for (int[] sum : sums) {
            PathExplorer x = Check.program(i(34, 0, sum[1]), i(1, 0), i(32));
            Check.dueRun(sum[0] + " and " + sum[1], x, sum[0], 0, RETURNED, sum[2], 0, 3);
        }
    }

    /** "take INTs x, y, put x op y as Java's ints" */
    private static void arithmetic() {
        int[] numbers = {0, 1, -1, 2, 7, -7, 31, 32, 33, 65535, MIN, MAX};
        for (int x : numbers) {
            for (int y : numbers) {
                int[] results = {
                    x + y, x - y, x * y, y == 0 ? 0 : x / y, y == 0 ? 0 : x % y, x & y, x | y, x ^ y,
                    x << (y & 31), x >> (y & 31), x >>> (y & 31),
                };
                for (int n = 0; n < results.length; n++) {
                    int operation = 3 + n;
                    boolean divides = operation == 6 || operation == 7;
                    if (!divides || y != 0) {
                        dueBinary(operation, x, y, results[n]);
                    }
                }
            }
        }
    }

    private static void dueBinary(int operation, int x, int y, int result) {
        PathExplorer machine = Check.program(i(1, 0), i(1, 1), i(operation), i(32));
        int events = operation == 6 || operation == 7 ? 1 : 0;
        Check.dueRun(x + " operation " + operation + " " + y, machine, x, y, RETURNED, result, events, 4);
    }

    /** The same by written numbers: where Java's ints wrap, and how they round. */
    private static void edgesOfArithmetic() {
        dueBinary(3, MAX, 1, MIN);
        dueBinary(3, MIN, -1, MAX);
        dueBinary(4, MIN, 1, MAX);
        dueBinary(4, 0, MIN, MIN);
        dueBinary(5, MIN, -1, MIN);
        dueBinary(5, 65536, 65536, 0);
        dueBinary(5, MAX, 2, -2);
        dueBinary(6, MIN, -1, MIN);
        dueBinary(6, -7, 2, -3);
        dueBinary(6, 7, -2, -3);
        dueBinary(6, 0, 5, 0);
        dueBinary(6, MIN, MIN, 1);
        dueBinary(7, MIN, -1, 0);
        dueBinary(7, -7, 2, -1);
        dueBinary(7, 7, -2, 1);
        dueBinary(7, 5, MIN, 5);
        dueBinary(8, -1, 12, 12);
        dueBinary(9, MIN, MAX, -1);
        dueBinary(10, -1, MAX, MIN);
    }

    /** "(shifts by the low 5 bits)" */
    private static void shifts() {
        int[] by = {0, 1, 31, 32, 33, 63, 64, -1, -31, -32, -33, MIN, MAX};
        int[] low = {0, 1, 31, 0, 1, 31, 0, 31, 1, 0, 31, 0, 31};
        int[] left = {-5, -10, MIN};
        int[] right = {-5, -3, -1};
        int[] unsigned = {-5, MAX - 2, 1};
        for (int n = 0; n < by.length; n++) {
            int row = low[n] == 31 ? 2 : low[n];
            dueBinary(11, -5, by[n], left[row]);
            dueBinary(12, -5, by[n], right[row]);
            dueBinary(13, -5, by[n], unsigned[row]);
        }
    }

    /** "DIV and REM by 0 raise 1." */
    private static void divisionsByZero() {
        int[] numbers = {MIN, -1, 0, 1, MAX};
        for (int operation = 6; operation <= 7; operation++) {
            for (int x : numbers) {
                PathExplorer bound = Check.program(i(1, 0), i(1, 1), i(operation), i(32));
                Check.dueRun(x + " by a bound 0", bound, x, 0, THROWN, 1, 1, 3);
                PathExplorer plain = Check.program(i(0, x), i(0, 0), i(operation), i(32));
                Check.dueRun(x + " by a plain 0", plain, 3, 3, THROWN, 1, 0, 3);
            }
        }
    }

    /** "take an INT, put -x, (byte) x, (char) x, (short) x." */
    private static void conversions() {
        int[][] rows = {
            {0, 0, 0, 0, 0}, {1, -1, 1, 1, 1}, {-1, 1, -1, 65535, -1},
            {127, -127, 127, 127, 127}, {128, -128, -128, 128, 128},
            {-128, 128, -128, 65408, -128}, {-129, 129, 127, 65407, -129},
            {255, -255, -1, 255, 255}, {256, -256, 0, 256, 256},
            {32767, -32767, -1, 32767, 32767}, {32768, -32768, 0, 32768, -32768},
            {-32768, 32768, 0, 32768, -32768}, {-32769, 32769, -1, 32767, 32767},
            {65535, -65535, -1, 65535, -1}, {65536, -65536, 0, 0, 0},
            {MIN, MIN, 0, 0, 0}, {MAX, MIN + 1, -1, 65535, -1},
        };
        for (int[] row : rows) {
            for (int n = 0; n < 4; n++) {
                PathExplorer machine = Check.program(i(1, 0), i(14 + n), i(32));
                Check.dueRun("operation " + (14 + n) + " of " + row[0], machine, row[0], 0, RETURNED, row[n + 1], 0, 3);
            }
        }
    }

    /** "18 DUP: takes x, puts x, x. 19 DUP X1: takes x, y, puts y, x, y. 20 SWAP: takes x, y, puts y, x. 21 POP" */
    private static void stackOperations() {
        PathExplorer dup = Check.program(i(1, 0), i(18), i(5), i(32));
        Check.dueRun("DUP", dup, 9, 0, RETURNED, 81, 0, 4);
        // y, x, y: y - (x - y)
        PathExplorer x1 = Check.program(i(1, 0), i(1, 1), i(19), i(4), i(4), i(32));
        Check.dueRun("DUP X1", x1, 100, 7, RETURNED, 7 - (100 - 7), 0, 6);
        PathExplorer swap = Check.program(i(1, 0), i(1, 1), i(20), i(4), i(32));
        Check.dueRun("SWAP", swap, 100, 7, RETURNED, 7 - 100, 0, 5);
        PathExplorer pop = Check.program(i(1, 0), i(1, 1), i(21), i(32));
        Check.dueRun("POP", pop, 100, 7, RETURNED, 100, 0, 4);
        PathExplorer references = Check.program(i(30), i(18), i(20), i(19), i(21), i(21), i(21), i(0, 4), i(32));
        Check.dueRun("REFERENCES are moved like INTS", references, 0, 0, RETURNED, 4, 0, 9);
        PathExplorer mixed = Check.program(i(0, 3), i(26), i(1, 0), i(20), i(29), i(4), i(32));
        Check.dueRun("an INT and a REFERENCE change places", mixed, 10, 0, RETURNED, 7, 0, 7);
        PathExplorer under = Check.program(i(1, 0), i(0, 3), i(26), i(19), i(29), i(4), i(20), i(29), i(5), i(32));
        Check.dueRun("a REFERENCE is put under an INT", under, 10, 0, RETURNED, 21, 0, 10);
    }

    /** "22 GOTO a.": to the first, the last and its own instruction. */
    private static void gotos() {
        PathExplorer last = Check.program(i(22, 59));
        for (int n = 1; n < 59; n++) {
            Check.emit(last, n == 1 ? i(32) : i(31, 9));
        }
        Check.dueRun("no instruction 59 yet", last, 0, 0, BROKEN, NONE, 0, 2);
        Check.emit(last, i(31, 8));
        Check.dueRun("GOTO 59", last, 0, 0, THROWN, 8, 0, 2);
        PathExplorer first = Check.program(i(32), i(0, 4), i(22, 0));
        first.method(0, 1, 2);
        Check.dueRun("GOTO 0", first, 0, 0, RETURNED, 4, 0, 3);
        Check.dueRun("GOTO itself", Check.program(i(22, 0)), 0, 0, PathExplorer.TIRED, NONE, 0, 150);
    }

    /** "23 IF b: takes INT x: to a if x is (b 0 .. 5) = != < >= > <= 0. 24 IFCMP b: takes INTs x, y" */
    private static void comparisons() {
        int[][] pairs = {
            {0, 0}, {1, 0}, {-1, 0}, {MIN, 0}, {MAX, 0}, {MIN, MAX}, {MAX, MIN}, {5, 5}, {4, 5}, {6, 5},
            {MIN, MIN}, {MAX, MAX}, {MIN, 1}, {-2, MAX},
        };
        for (int[] pair : pairs) {
            int x = pair[0];
            int y = pair[1];
            boolean[] holds = {x == y, x != y, x < y, x >= y, x > y, x <= y};
            for (int b = 0; b < 6; b++) {
                String name = x + " compared (" + b + ") with " + y;
                PathExplorer two = Check.program(i(1, 0), i(1, 1), i(24, 5, b), i(0, 10), i(32), i(0, 20), i(32));
                Check.dueRun(name, two, x, y, RETURNED, holds[b] ? 20 : 10, 1, 5);
                if (y == 0) {
                    PathExplorer one = Check.program(i(1, 0), i(23, 4, b), i(0, 10), i(32), i(0, 20), i(32));
                    Check.dueRun(name, one, x, y, RETURNED, holds[b] ? 20 : 10, 1, 4);
                }
            }
        }
    }

    /** "25 SWITCH: takes INT x: to a + x - b if x - b (wrapping) is 0, 1 or 2, else to a + 3." */
    private static void switches() {
        int[] bases = {0, 5, -3, -1, -2, MAX, MAX - 1, MAX - 2, MIN, MIN + 1};
        for (int base : bases) {
            PathExplorer x = Check.program(
                i(1, 0), i(25, 3, base), i(32), i(22, 7), i(22, 9), i(22, 11), i(22, 13),
                i(0, 0), i(32), i(0, 1), i(32), i(0, 2), i(32), i(0, 3), i(32));
            for (int offset = -2; offset <= 4; offset++) {
                int way = offset >= 0 && offset <= 2 ? offset : 3;
                Check.dueRun("SWITCH from " + base + " by " + offset, x, base + offset, 0, RETURNED, way, 1, 5);
            }
            Check.dueRun("SWITCH far off", x, base + MIN, 0, RETURNED, 3, 1, 5);
            Check.dueRun("SWITCH far off", x, base + MAX, 0, RETURNED, 3, 1, 5);
        }
    }

    /** A SWITCH's place may lie behind the last instruction that there can be. */
    private static void switchPlaces() {
        for (int a = 56; a <= 59; a++) {
            PathExplorer x = Check.program(i(1, 0), i(25, a, 0));
            for (int n = 2; n < 60; n++) {
                Check.emit(x, i(31, n >= 56 ? n - 51 : 9));
            }
            for (int side = 0; side < 4; side++) {
                boolean there = a + side < 60;
                Check.dueRun("SWITCH to " + a + " and " + side, x, side, 0,
                    there ? THROWN : BROKEN, there ? a + side - 51 : NONE, 1, 3);
            }
        }
        PathExplorer zero = Check.program(i(31, 5), i(31, 6), i(31, 7), i(31, 8), i(1, 0), i(25, 0, 0));
        zero.method(0, 4, 2);
        for (int side = 0; side < 4; side++) {
            Check.dueRun("SWITCH to 0 and " + side, zero, side, 0, THROWN, 5 + side, 1, 3);
        }
    }

    /** "26 NEW: takes INT x: below 0 raises 3; else puts a new array of x cells" "29 LENGTH" */
    private static void newArrays() {
        for (int cells = 0; cells <= 8; cells++) {
            PathExplorer bound = Check.program(i(1, 0), i(26), i(29), i(32));
            Check.dueRun("NEW of a bound " + cells, bound, cells, 0, RETURNED, cells, 2, 4);
            PathExplorer plain = Check.program(i(0, cells), i(26), i(29), i(32));
            Check.dueRun("NEW of a plain " + cells, plain, 0, 0, RETURNED, cells, 0, 4);
        }
        int[] more = {9, 10, MAX};
        for (int cells : more) {
            PathExplorer bound = Check.program(i(1, 0), i(26), i(29), i(32));
            Check.dueRun("NEW of a bound " + cells, bound, cells, 0, LIMIT, NONE, 1, 2);
            Check.dueRun("NEW of a plain " + cells, Check.program(i(0, cells), i(26)), 0, 0, LIMIT, NONE, 0, 2);
        }
        int[] below = {-1, -9, MIN};
        for (int cells : below) {
            PathExplorer bound = Check.program(i(1, 0), i(26), i(29), i(32));
            Check.dueRun("NEW of a bound " + cells, bound, cells, 0, THROWN, 3, 1, 2);
            Check.dueRun("NEW of a plain " + cells, Check.program(i(0, cells), i(26)), 0, 0, THROWN, 3, 0, 2);
        }
    }

    /** "27 ALOAD: ... y no cell raises 2; puts the cell. 28 ASTORE: ... the same; the cell becomes z." */
    private static void cells() {
        int[] lengths = {0, 1, 2, 7, 8};
        for (int length : lengths) {
            int[] places = {MIN, -8, -1, 0, 1, length - 1, length, length + 1, 8, 9, MAX};
            PathExplorer bound = Check.program(
                i(0, length), i(26), i(2, 2), i(1, 2), i(1, 0), i(0, 77), i(28), i(1, 2), i(1, 0), i(27), i(32));
            PathExplorer load = Check.program(i(0, length), i(26), i(1, 0), i(27), i(32));
            for (int y : places) {
                boolean cell = y >= 0 && y < length;
                String name = "cell " + y + " of " + length;
                Check.dueRun("ASTORE in " + name, bound, y, 0, cell ? RETURNED : THROWN, cell ? 77 : 2,
                    cell ? 4 : 1, cell ? 11 : 7);
                Check.dueRun("ALOAD of " + name, load, y, 0, cell ? RETURNED : THROWN, cell ? 0 : 2,
                    cell ? 2 : 1, cell ? 5 : 4);
                PathExplorer plainStore = Check.program(
                    i(0, length), i(26), i(0, y), i(1, 0), i(28), i(0, 6), i(32));
                Check.dueRun("ASTORE in plain " + name, plainStore, 5, 0, cell ? RETURNED : THROWN, cell ? 6 : 2,
                    0, cell ? 7 : 5);
                PathExplorer plainLoad = Check.program(i(0, length), i(26), i(0, y), i(27), i(32));
                Check.dueRun("ALOAD of plain " + name, plainLoad, 5, 0, cell ? RETURNED : THROWN, cell ? 0 : 2,
                    0, cell ? 5 : 4);
            }
        }
    }

    /** No cell is another's, in the same array or the next; a copy of a REFERENCE is the same array. */
    private static void cellsOfTheirOwn() {
        PathExplorer two = Check.program(
            i(0, 8), i(26), i(2, 2), i(0, 8), i(26), i(2, 3), i(1, 2), i(1, 0), i(0, 5), i(28),
            i(1, 3), i(1, 1), i(27), i(1, 2), i(1, 1), i(27), i(0, 100), i(5), i(3), i(32));
        for (int p = 0; p < 8; p++) {
            for (int q = 0; q < 8; q++) {
                Check.dueRun("cell " + p + ", then " + q, two, p, q, RETURNED, p == q ? 500 : 0, 6, 20);
            }
        }
        PathExplorer shared = Check.program(
            i(0, 2), i(26), i(18), i(2, 2), i(0, 0), i(0, 9), i(28), i(1, 2), i(0, 0), i(27), i(32));
        Check.dueRun("a copied REFERENCE is the same array", shared, 0, 0, RETURNED, 9, 0, 11);
        PathExplorer again = Check.program(
            i(0, 1), i(26), i(2, 2), i(1, 2), i(0, 0), i(27), i(1, 2), i(0, 0), i(1, 0), i(28), i(32));
        Check.dueRun("all INT 0", again, 9, 0, RETURNED, 0, 0, 11);
        Check.dueRun("in a new RUN too", again, 9, 0, RETURNED, 0, 0, 11);
    }

    /** "null raises 4": whatever y is, and without an EVENT. */
    private static void nulls() {
        Check.dueRun("LENGTH of null", Check.program(i(30), i(29)), 0, 0, THROWN, 4, 0, 2);
        int[] places = {MIN, -1, 0, 1, 8, MAX};
        for (int y : places) {
            Check.dueRun("ALOAD of null", Check.program(i(30), i(1, 0), i(27)), y, 0, THROWN, 4, 0, 3);
            Check.dueRun("ALOAD of null", Check.program(i(30), i(0, y), i(27)), 0, 0, THROWN, 4, 0, 3);
            Check.dueRun("ASTORE in null", Check.program(i(30), i(1, 0), i(0), i(28)), y, 0, THROWN, 4, 0, 4);
            Check.dueRun("ASTORE in null", Check.program(i(30), i(0, y), i(0), i(28)), 0, 0, THROWN, 4, 0, 4);
        }
    }

    /** "32 RETURN: takes an INT x: ... the RUN has RETURNED x": any int, NONE is none of them. */
    private static void returns() {
        int[] numbers = {MIN, -2, -1, 0, 1, MAX};
        for (int x : numbers) {
            Check.dueRun("RETURN " + x, Check.program(i(1, 0), i(32)), x, 0, RETURNED, x, 0, 2);
        }
    }

    /** Operands that an operation does not use may be any ints, and do nothing. */
    private static void unusedOperands() {
        int[] anyInt = {MIN, -1, 60, MAX};
        for (int n : anyInt) {
            PathExplorer x = Check.program(
                i(0, 2, n), i(1, 0, n), i(3, n, n), i(2, 2, n), i(1, 2, n), i(18, n, n), i(20, n, n), i(21, n, n),
                i(14, n, n), i(22, 10, n), i(26, n, n), i(29, n, n), i(30, n, n), i(21, n, n), i(33, 1, n),
                i(32, n, n), i(31, 7, n));
            x.method(1, 16, 1);
            Check.dueRun("operands that are not used", x, -6, 0, THROWN, 7, 2, 16);
        }
    }
}
