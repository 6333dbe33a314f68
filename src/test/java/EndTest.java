/** How a RUN ends: "tested in this order: TIRED, ... BROKEN, ... DEEP, ... LIMIT", and with how many STEPS. */
public final class EndTest {
    private static final int RETURNED = PathExplorer.RETURNED;
    private static final int THROWN = PathExplorer.THROWN;
    private static final int TIRED = PathExplorer.TIRED;
    private static final int BROKEN = PathExplorer.BROKEN;
    private static final int DEEP = PathExplorer.DEEP;
    private static final int LIMIT = PathExplorer.LIMIT;
    private static final long NONE = PathExplorer.NONE;
    private static final int MIN = Integer.MIN_VALUE;
    private static final int MAX = Integer.MAX_VALUE;

    public static void main(String[] args) {
        tired();
        tiredFirst();
        tiredInCalls();
        eventsAtTheEnd();
        brokenPlaces();
        brokenSorts();
        brokenBeforeRaising();
        brokenBeforeDeep();
        brokenBeforeLimit();
        limit();
        arraysOfManyFrames();
        Check.end();
    }

    private static int[] i(int... row) {
        return row;
    }

    /** "TIRED, if 150 STEPS are done and another is due" */
    private static void tired() {
        Check.dueRun("149 STEPS", Check.delayed(147, i(0, 5), i(32)), 0, 0, RETURNED, 5, 0, 149);
        Check.dueRun("150 STEPS", Check.delayed(148, i(0, 5), i(32)), 0, 0, RETURNED, 5, 0, 150);
        Check.dueRun("151 STEPS", Check.delayed(149, i(0, 5), i(32)), 0, 0, TIRED, NONE, 0, 150);
        Check.dueRun("152 STEPS", Check.delayed(150, i(0, 5), i(32)), 0, 0, TIRED, NONE, 0, 150);
        PathExplorer loop = Check.program(i(34, 0, -1), i(1, 0), i(23, 0, 1), i(0, 6), i(32));
        Check.dueRun("a long loop", loop, 50, 0, TIRED, NONE, 20, 150);
        Check.dueRun("a shorter one", loop, 49, 0, RETURNED, 6, 20, 149);
        Check.dueRun("a short one behind a long one", loop, 1, 0, RETURNED, 6, 1, 5);
        Check.dueRun("an endless one", Check.program(i(22, 0)), 0, 0, TIRED, NONE, 0, 150);
    }

    /** An end that is found out in the 150th STEP counts, one that were in the 151st does not. */
    private static void tiredFirst() {
        dueInTime("no instruction", BROKEN, NONE);
        dueInTime("a lack", BROKEN, NONE, i(21));
        dueInTime("no METHOD", BROKEN, NONE, i(33, 2));
        dueInTime("THROW", THROWN, 7, i(31, 7));
        for (int before = 148; before <= 149; before++) {
            PathExplorer x = Check.delayed(before, i(0, 9), i(26));
            Check.dueRun("LIMIT behind " + before, x, 0, 0, before == 148 ? LIMIT : TIRED, NONE, 0, 150);
            PathExplorer below = Check.delayed(before, i(0, -1), i(26));
            Check.dueRun("a raise behind " + before, below, 0, 0, before == 148 ? THROWN : TIRED,
                before == 148 ? 3 : NONE, 0, 150);
            PathExplorer sort = Check.delayed(before, i(30), i(14));
            Check.dueRun("a sort behind " + before, sort, 0, 0, before == 148 ? BROKEN : TIRED, NONE, 0, 150);
        }
        PathExplorer caught = Check.delayed(149, i(31, 7), i(32));
        caught.handler(0, 60, Check.tailStart(149) + 1, 0);
        Check.dueRun("what is caught in the 150th STEP is TIRED", caught, 0, 0, TIRED, NONE, 0, 150);
    }

    private static void dueInTime(String name, int outcome, long value, int[]... tail) {
        Check.dueRun(name + " in the 149th STEP", Check.delayed(148, tail), 0, 0, outcome, value, 0, 149);
        Check.dueRun(name + " in the 150th STEP", Check.delayed(149, tail), 0, 0, outcome, value, 0, 150);
        Check.dueRun(name + " in the 151st STEP", Check.delayed(150, tail), 0, 0, TIRED, NONE, 0, 150);
    }

    private static void tiredInCalls() {
        for (int before = 145; before <= 147; before++) {
            PathExplorer x = Check.delayed(before, i(33, 1));
            x.method(1, Check.tailStart(before), 0);
            boolean deep = before < 147;
            Check.dueRun("DEEP behind " + before, x, 0, 0, deep ? DEEP : TIRED, NONE, 0, deep ? before + 4 : 150);
        }
        for (int before = 146; before <= 147; before++) {
            // CALL, PUSH, RETURN, RETURN: the 4th of them may be the 150th STEP.
            int start = Check.tailStart(before);
            PathExplorer x = Check.delayed(before, i(33, 1), i(32), i(0, 3), i(32));
            x.method(1, start + 2, 0);
            boolean inTime = before == 146;
            Check.dueRun("STEPS of all FRAMES count, " + before, x, 0, 0, inTime ? RETURNED : TIRED,
                inTime ? 3 : NONE, 0, 150);
        }
    }

    /** A DECISION is recorded in the 150th STEP, and there is no 151st. */
    private static void eventsAtTheEnd() {
        for (int before = 148; before <= 149; before++) {
            PathExplorer x = Check.delayed(before, i(1, 0), i(23, 0));
            Check.dueRun("an IF behind " + before, x, 0, 0, TIRED, NONE, before == 148 ? 1 : 0, 150);
            PathExplorer limit = Check.delayed(before, i(1, 0), i(26));
            Check.dueRun("a LIMIT behind " + before, limit, 9, 0, before == 148 ? LIMIT : TIRED, NONE,
                before == 148 ? 1 : 0, 150);
        }
    }

    /** "BROKEN, if the instruction is none" */
    private static void brokenPlaces() {
        Check.dueRun("no instructions", Check.program(), 0, 0, BROKEN, NONE, 0, 1);
        Check.dueRun("behind the last", Check.program(i(0)), 0, 0, BROKEN, NONE, 0, 2);
        Check.dueRun("a jump just behind the last", Check.program(i(22, 1)), 0, 0, BROKEN, NONE, 0, 2);
        Check.dueRun("a jump far behind it", Check.program(i(22, 59)), 0, 0, BROKEN, NONE, 0, 2);
        PathExplorer jump = Check.program(i(1, 0), i(23, 2));
        Check.dueRun("an IF behind the last", jump, 0, 0, BROKEN, NONE, 1, 3);
        Check.dueRun("or none, but there is nothing behind", jump, 1, 0, BROKEN, NONE, 1, 3);
        PathExplorer called = Check.program(i(33, 1));
        called.method(1, 1, 0);
        Check.dueRun("a METHOD without an instruction", called, 0, 0, BROKEN, NONE, 0, 2);
        PathExplorer full = new PathExplorer();
        for (int n = 0; n < 60; n++) {
            Check.emit(full, i(34, 0, 1));
        }
        full.method(0, 0, 2);
        Check.dueRun("behind the 60th", full, 0, 0, BROKEN, NONE, 0, 61);
        full.method(0, 59, 2);
        Check.dueRun("just the 60th", full, 0, 0, BROKEN, NONE, 0, 2);
        PathExplorer cleared = Check.program(i(0, 1), i(0, 2), i(32));
        cleared.clear();
        Check.emit(cleared, i(34, 0, 0));
        cleared.method(0, 0, 2);
        Check.dueRun("instructions that were cleared", cleared, 0, 0, BROKEN, NONE, 0, 2);
    }

    /** "a VALUE taken or a local in 34 is of the other sort" */
    private static void brokenSorts() {
        for (int operation = 3; operation <= 13; operation++) {
            dueBroken("REFERENCE first", 3, i(30), i(1, 0), i(operation));
            dueBroken("REFERENCE second", 3, i(1, 0), i(30), i(operation));
            dueBroken("REFERENCES", 3, i(30), i(30), i(operation));
        }
        int[] ones = {14, 15, 16, 17, 23, 25, 26, 32};
        for (int operation : ones) {
            dueBroken("null for " + operation, 2, i(30), i(operation));
            dueBroken("an array for " + operation, 3, i(0, 1), i(26), i(operation));
        }
        dueBroken("IFCMP first", 3, i(30), i(1, 0), i(24));
        dueBroken("IFCMP second", 3, i(1, 0), i(30), i(24));
        dueBroken("LENGTH of INT", 2, i(1, 0), i(29));
        dueBroken("ALOAD of INT", 3, i(1, 0), i(1, 0), i(27));
        dueBroken("ALOAD at an array", 5, i(0, 1), i(26), i(0, 1), i(26), i(27));
        dueBroken("ASTORE in INT", 4, i(1, 0), i(1, 0), i(0), i(28));
        dueBroken("ASTORE at an array", 6, i(0, 1), i(26), i(0, 1), i(26), i(0), i(28));
        dueBroken("ASTORE of an array", 6, i(0, 1), i(26), i(0), i(0, 1), i(26), i(28));
        dueBroken("RETURN of an array", 3, i(0, 1), i(26), i(32));
        for (int local = 0; local < 4; local++) {
            dueBroken("ADD to null", 3, i(30), i(2, local), i(34, local, 0));
            dueBroken("ADD to an array", 4, i(0, 1), i(26), i(2, local), i(34, local, 0));
            int other = (local + 1) % 4;
            Check.due("ADD beside null", Check.program(i(30), i(2, local), i(34, other, 0), i(31, 9)).run(0, 0), THROWN);
        }
        PathExplorer called = Check.program(i(33, 1), i(32), i(30), i(32));
        called.method(1, 2, 0);
        Check.dueRun("RETURN of null in a CALL", called, 0, 0, BROKEN, NONE, 0, 3);
    }

    private static void dueBroken(String name, int steps, int[]... code) {
        Check.dueRun(name, Check.program(code), 0, 0, BROKEN, NONE, 0, steps);
    }

    /** What is BROKEN raises nothing, and is no EVENT. */
    private static void brokenBeforeRaising() {
        dueBroken("REFERENCE by a plain 0", 3, i(30), i(0, 0), i(6));
        dueBroken("REFERENCE by a bound 0", 3, i(30), i(1, 0), i(6));
        dueBroken("REFERENCE by a bound 0", 3, i(30), i(1, 0), i(7));
        dueBroken("null at null", 3, i(30), i(30), i(27));
        dueBroken("null at null", 4, i(30), i(30), i(0), i(28));
        dueBroken("null in null", 4, i(30), i(0), i(30), i(28));
        dueBroken("null in no cell", 5, i(0, 1), i(26), i(1, 0), i(30), i(28));
        dueBroken("ALOAD at 0 of nothing", 2, i(1, 0), i(27));
        dueBroken("DIV by 0 of nothing", 2, i(1, 0), i(6));
        dueBroken("IFCMP of one", 2, i(1, 0), i(24));
    }

    /** A 4th FRAME that CALLS with so much on its stack. */
    private static PathExplorer fourth(int m, int values) {
        PathExplorer x = Check.program(i(33, 1), i(0, 1), i(33, 2), i(0, 1), i(33, 3));
        x.method(1, 1, 0);
        x.method(2, 3, 1);
        x.method(3, 5, 0);
        for (int n = 0; n < values; n++) {
            Check.emit(x, i(0, 1));
        }
        Check.emit(x, i(33, m));
        return x;
    }

    private static void brokenBeforeDeep() {
        Check.dueRun("enough for the 5th FRAME", fourth(2, 1), 0, 0, DEEP, NONE, 0, 7);
        Check.dueRun("one is lacking", fourth(2, 0), 0, 0, BROKEN, NONE, 0, 6);
        Check.dueRun("enough for the ENTRY", fourth(0, 2), 0, 0, DEEP, NONE, 0, 8);
        Check.dueRun("one of two is lacking", fourth(0, 1), 0, 0, BROKEN, NONE, 0, 7);
        Check.dueRun("two are lacking", fourth(0, 0), 0, 0, BROKEN, NONE, 0, 6);
        Check.dueRun("none is needed", fourth(3, 0), 0, 0, DEEP, NONE, 0, 6);
        PathExplorer x = Check.program(i(33, 0), i(32));
        Check.dueRun("the ENTRY without its arguments", x, 0, 0, BROKEN, NONE, 0, 1);
        PathExplorer undefined = Check.program(i(1, 0), i(23, 5), i(34, 0, -1), i(1, 0), i(22, 6), i(33, 3), i(1, 1), i(33, 0));
        Check.dueRun("an undefined METHOD in the 4th FRAME", undefined, 3, 0, BROKEN, NONE, 4, 24);
        Check.dueRun("the 5th FRAME", undefined, 4, 0, DEEP, NONE, 4, 28);
    }

    /** Eight arrays of no cells, in 56 STEPS without an EVENT; then the tail. */
    private static PathExplorer eightArrays(int[]... tail) {
        PathExplorer x = Check.program(
            i(0, 0), i(26), i(21), i(34, 2, 1), i(1, 2), i(0, 8), i(24, 0, 2));
        Check.emit(x, tail);
        return x;
    }

    private static void brokenBeforeLimit() {
        Check.dueRun("the 9th array", eightArrays(i(0), i(26)), 0, 0, LIMIT, NONE, 0, 58);
        Check.dueRun("NEW of nothing", eightArrays(i(26)), 0, 0, BROKEN, NONE, 0, 57);
        Check.dueRun("NEW of null", eightArrays(i(30), i(26)), 0, 0, BROKEN, NONE, 0, 58);
    }

    /** "LIMIT, if NEW would make the 9th array or one of more than 8 cells." */
    private static void limit() {
        PathExplorer eight = eightArrays(i(0, 1), i(32));
        Check.dueRun("eight arrays", eight, 0, 0, RETURNED, 1, 0, 58);
        Check.dueRun("eight in the next RUN, too", eight, 0, 0, RETURNED, 1, 0, 58);
        int[] cells = {0, 1, 8, 9, MAX};
        for (int n : cells) {
            Check.dueRun("the 9th, of " + n, eightArrays(i(0, n), i(26)), 0, 0, LIMIT, NONE, 0, 58);
            Check.dueRun("the 9th, of a bound " + n, eightArrays(i(1, 0), i(26)), n, 0, LIMIT, NONE, 1, 58);
        }
        int[] below = {-1, MIN};
        for (int n : below) {
            Check.dueRun("below 0 makes no 9th", eightArrays(i(0, n), i(26)), 0, 0, THROWN, 3, 0, 58);
            Check.dueRun("nor does a bound one", eightArrays(i(1, 0), i(26)), n, 0, THROWN, 3, 1, 58);
        }
        PathExplorer many = Check.program(
            i(0, 8), i(26), i(21), i(34, 0, -1), i(1, 0), i(23, 0, 4), i(0, 1), i(32));
        Check.dueRun("seven of 8 cells", many, 7, 0, RETURNED, 1, 7, 44);
        Check.dueRun("eight of 8 cells", many, 8, 0, RETURNED, 1, 8, 50);
        Check.dueRun("nine of 8 cells", many, 9, 0, LIMIT, NONE, 8, 50);
        Check.dueRun("a LIMIT does not stay", many, 8, 0, RETURNED, 1, 8, 50);
        PathExplorer raised = Check.program(
            i(0, -1), i(26), i(21), i(0, 8), i(26), i(21), i(34, 0, -1), i(1, 0), i(23, 3, 4), i(0, 1), i(32));
        raised.handler(0, 2, 2, 3);
        Check.dueRun("what raised made no array", raised, 8, 0, RETURNED, 1, 8, 53);
    }

    /** Arrays are the RUN's, not the FRAME's. */
    private static void arraysOfManyFrames() {
        PathExplorer x = Check.program(
            i(33, 1), i(21), i(34, 0, -1), i(1, 0), i(23, 0, 4), i(0, 1), i(32), i(0, 3), i(26), i(29), i(32));
        x.method(1, 7, 0);
        Check.dueRun("eight arrays in eight FRAMES", x, 8, 0, RETURNED, 1, 8, 74);
        Check.dueRun("the 9th", x, 9, 0, LIMIT, NONE, 8, 75);
    }
}
