/** Promises 7 and 8, and of 14 the EVENTS and STEPS of the last run. */
public final class RunTest {
    private static final int RETURNED = PathExplorer.RETURNED;
    private static final int THROWN = PathExplorer.THROWN;
    private static final int TIRED = PathExplorer.TIRED;
    private static final int BROKEN = PathExplorer.BROKEN;
    private static final int DEEP = PathExplorer.DEEP;
    private static final int LIMIT = PathExplorer.LIMIT;
    private static final int REFUSED = PathExplorer.REFUSED;
    private static final long NONE = PathExplorer.NONE;
    private static final int MIN = Integer.MIN_VALUE;
    private static final int MAX = Integer.MAX_VALUE;

    public static void main(String[] args) {
        anyInputs();
        everyOutcome();
        entryNotDefined();
        exploreLeavesIt();
        runLeavesTests();
        lastOf512Calls();
        Check.end();
    }

    private static int[] i(int... row) {
        return row;
    }

    /** "A RUN on P = p, Q = q, in or out of the RANGES" */
    private static void anyInputs() {
        PathExplorer x = Check.program(i(1, 0), i(1, 1), i(4), i(32));
        int[] numbers = {MIN, -1, 0, 3, 4, MAX};
        for (int p : numbers) {
            for (int q : numbers) {
                Check.dueRun("run(" + p + ", " + q + ")", x, p, q, RETURNED, p - q, 0, 4);
            }
        }
        x.range(0, 7, 7);
        Check.dueRun("out of a RANGE of one", x, 6, 0, RETURNED, 6, 0, 4);
    }

    /** "The int RETURNED or THROWN by the last run call; NONE if it ended else, or before." */
    private static void everyOutcome() {
        // P chooses: 0 RETURNED, 1 THROWN, 2 TIRED, else Q: 0 BROKEN, 1 DEEP, 2 LIMIT.
        PathExplorer x = Check.program(
            i(1, 0), i(25, 2, 0), i(22, 6), i(22, 8), i(22, 9), i(22, 10),
            i(0, -1), i(32), i(31, 9), i(22, 9),
            i(1, 1), i(25, 12, 0), i(21), i(22, 15), i(22, 16), i(33, 1), i(0, 9), i(26));
        x.method(1, 15, 0);
        Check.due("before", x.value(), NONE);
        Check.due("EVENTS before", x.count(4), 0);
        Check.due("STEPS before", x.count(5), 0);
        int[][] rows = {
            {0, 0, RETURNED, 1, 5}, {1, 0, THROWN, 1, 4}, {2, 0, TIRED, 1, 150},
            {3, 0, BROKEN, 2, 6}, {3, 1, DEEP, 2, 10}, {3, 2, LIMIT, 2, 8},
        };
        // Each behind each: no answer of the run before is left over.
        for (int[] first : rows) {
            for (int[] row : rows) {
                x.run(first[0], first[1]);
                long value = row[2] == RETURNED ? -1 : row[2] == THROWN ? 9 : NONE;
                Check.dueRun("outcome " + row[2] + " behind " + first[2], x, row[0], row[1], row[2], value, row[3], row[4]);
            }
        }
    }

    /** "The ENTRY is not defined: REFUSED." */
    private static void entryNotDefined() {
        PathExplorer x = new PathExplorer();
        Check.due("a new object", x.run(0, 0), REFUSED);
        Check.due("its value", x.value(), NONE);
        Check.emit(x, i(0, 7), i(32));
        Check.due("instructions alone", x.run(0, 0), REFUSED);
        for (int m = 1; m < 4; m++) {
            x.method(m, 0, 0);
            Check.due("METHOD " + m, x.run(0, 0), REFUSED);
        }
        x.method(0, 0, 1);
        Check.due("a refused ENTRY", x.run(0, 0), REFUSED);
        Check.due("no STEPS", x.count(5), 0);
        x.method(0, 0, 2);
        Check.dueRun("the ENTRY", x, 0, 0, RETURNED, 7, 0, 2);
        x.clear();
        Check.due("behind clear", x.run(0, 0), REFUSED);
        Check.due("the value stays", x.value(), 7);
        Check.due("the STEPS stay", x.count(5), 2);
        x.method(0, 0, 2);
        Check.dueRun("an ENTRY without instructions", x, 7, 0, BROKEN, NONE, 0, 1);
    }

    private static void exploreLeavesIt() {
        PathExplorer x = Check.program(i(1, 0), i(1, 1), i(6), i(32));
        x.explore(0);
        Check.due("no run call yet", x.value(), NONE);
        Check.due("no EVENTS yet", x.count(4), 0);
        Check.due("no STEPS yet", x.count(5), 0);
        Check.dueRun("RETURNED", x, 7, 2, RETURNED, 3, 1, 4);
        Check.dueRun("THROWN", x, 7, 0, THROWN, 1, 1, 3);
        x.explore(0);
        Check.due("explore leaves the value", x.value(), 1);
        Check.due("explore leaves the EVENTS", x.count(4), 1);
        Check.due("explore leaves the STEPS", x.count(5), 3);
    }

    private static void runLeavesTests() {
        PathExplorer x = Check.program(i(1, 0), i(23, 3), i(0, 1), i(0, 2), i(32));
        x.explore(0);
        x.run(9, 9);
        Check.due("TESTS", x.count(2), 2);
        Check.due("TEST 0", x.test(0, 0), 0);
        Check.due("TEST 1", x.test(1, 0), 1);
        Check.due("its STEPS", x.test(1, 5), 5);
        Check.due("its EVENTS", x.test(1, 4), 1);
        Check.due("no TEST 2", x.test(2, 0), NONE);
        Check.due("COMPLETE", x.complete(), true);
    }

    /** "An object is used for at most 512 calls after it has been made": the last is answered like the first. */
    private static void lastOf512Calls() {
        PathExplorer x = new PathExplorer();
        x.method(0, 0, 2);
        x.emit(1, 0, 0);
        x.emit(23, 2, 0);
        x.emit(1, 0, 0);
        x.emit(32, 0, 0);
        for (int call = 6; call < 511; call++) {
            if (call % 2 == 0) {
                x.explore(call / 2 % 2);
            } else {
                x.run(call, 0);
            }
        }
        Check.due("the 511th call", x.run(12, 0), RETURNED);
        Check.due("the 512th call", x.value(), 12);
        PathExplorer y = new PathExplorer();
        for (int call = 1; call <= 511; call++) {
            y.clear();
        }
        Check.due("the 512th call", y.emit(0, 0, 0), 0);
    }
}
