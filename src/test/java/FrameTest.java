/** "A FRAME has 4 locals (arguments first, then INT 0), a stack of at most 8 VALUES ... At most 4 FRAMES." */
public final class FrameTest {
    private static final int RETURNED = PathExplorer.RETURNED;
    private static final int THROWN = PathExplorer.THROWN;
    private static final int BROKEN = PathExplorer.BROKEN;
    private static final int DEEP = PathExplorer.DEEP;
    private static final long NONE = PathExplorer.NONE;

    public static void main(String[] args) {
        arguments();
        ownLocals();
        freshLocals();
        freshStacks();
        eightValues();
        fullStacks();
        shortStacks();
        stacksOfCalls();
        returning();
        fourFrames();
        framesAgain();
        undefinedMethods();
        Check.end();
    }

    private static int[] i(int... row) {
        return row;
    }

    /** "CALL of method a: takes its arguments (the last on top), a new FRAME of it" */
    private static void arguments() {
        int[][] locals = {{0, 0, 0, 0}, {72, 0, 0, 0}, {71, 72, 0, 0}};
        for (int m = 1; m < 4; m++) {
            for (int count = 0; count <= 2; count++) {
                for (int local = 0; local < 4; local++) {
                    // CALL has no use for its b: no local is changed by it.
                    PathExplorer x = Check.program(
                        i(0, 71), i(0, 72), i(33, m, 1000), i(32), i(1, local), i(32));
                    x.method(m, 4, count);
                    Check.dueRun("local " + local + " of " + count + " arguments", x, 5, 6,
                        RETURNED, locals[count][local], 0, 6);
                }
            }
        }
        long[] sums = {72 + 9, 71 + 9, NONE};
        for (int count = 0; count <= 2; count++) {
            PathExplorer x = Check.program(i(0, 71), i(0, 72), i(33, 1), i(3), i(32), i(0, 9), i(32));
            x.method(1, 5, count);
            Check.dueRun(count + " arguments are taken, no more", x, 5, 6,
                count == 2 ? BROKEN : RETURNED, sums[count], 0, count == 2 ? 6 : 7);
        }
        PathExplorer reference = Check.program(i(0, 4), i(26), i(33, 1), i(32), i(1, 0), i(29), i(32));
        reference.method(1, 4, 1);
        Check.dueRun("a REFERENCE as argument", reference, 0, 0, RETURNED, 4, 0, 7);
        PathExplorer entry = Check.program(
            i(1, 0), i(23, 4, 4), i(0, 7), i(32), i(0, 0), i(1, 1), i(33, 0), i(32));
        Check.dueRun("the ENTRY may be called, and a PUSHED argument is not bound", entry, 1, 5, RETURNED, 7, 1, 10);
    }

    private static void ownLocals() {
        for (int local = 0; local < 4; local++) {
            PathExplorer x = Check.program(
                i(0, 5), i(2, local), i(33, 1), i(21), i(1, local), i(32), i(0, 9), i(2, local), i(0, 1), i(32));
            x.method(1, 6, 0);
            Check.dueRun("local " + local + " of the caller stays", x, 1, 2, RETURNED, 5, 0, 10);
        }
    }

    /** A FRAME at a depth where there was one before has nothing of it. */
    private static void freshLocals() {
        for (int local = 1; local < 4; local++) {
            // Answers what the local was, and leaves its argument there.
            int[][] method = {i(1, local), i(1, 0), i(2, local), i(32)};
            PathExplorer ints = Check.program(
                i(1, 0), i(33, 1), i(21), i(1, 0), i(33, 1), i(18), i(23, 7, 0), i(32),
                method[0], method[1], method[2], method[3]);
            ints.method(1, 8, 1);
            Check.dueRun("local " + local + " is INT 0 again, and not bound", ints, 33, 0, RETURNED, 0, 0, 16);
            PathExplorer references = Check.program(
                i(30), i(33, 1), i(21), i(0), i(33, 1), i(32),
                i(34, local, 6), method[0], method[1], method[2], method[3]);
            references.method(1, 6, 1);
            Check.dueRun("local " + local + " is no REFERENCE any more", references, 0, 0, RETURNED, 6, 0, 16);
        }
        PathExplorer runs = Check.program(
            i(1, 2), i(1, 3), i(3), i(30), i(2, 2), i(1, 0), i(2, 3), i(18), i(23, 9), i(32));
        Check.dueRun("the ENTRY's locals", runs, 33, 0, RETURNED, 0, 0, 10);
        Check.dueRun("the ENTRY's locals in the next RUN", runs, 33, 0, RETURNED, 0, 0, 10);
        PathExplorer stored = Check.program(
            i(1, 2), i(2, 3), i(0, 1), i(26), i(0), i(0, 77), i(28), i(0), i(0), i(33, 1), i(1, 3), i(3), i(32),
            i(1, 2), i(32));
        stored.method(1, 13, 2);
        Check.dueRun("the third VALUE of an ASTORE is no local of the METHOD", stored, 0, 0, RETURNED, 0, 0, 15);
        Check.dueRun("nor of the ENTRY in the next RUN", stored, 0, 0, RETURNED, 0, 0, 15);
    }

    private static void freshStacks() {
        PathExplorer x = Check.program(i(33, 1), i(33, 2), i(32), i(0, 1), i(0, 2), i(32), i(32));
        x.method(1, 3, 0);
        x.method(2, 6, 0);
        Check.dueRun("what a FRAME left is not the next one's", x, 0, 0, BROKEN, NONE, 0, 6);
        PathExplorer runs = Check.program(i(1, 0), i(23, 5), i(0, 1), i(0, 2), i(32), i(21));
        Check.dueRun("a RUN that leaves one", runs, 1, 0, RETURNED, 2, 1, 5);
        Check.dueRun("the next begins with an empty stack", runs, 0, 0, BROKEN, NONE, 1, 3);
        PathExplorer deep = Check.program(i(1, 0), i(33, 1), i(32));
        deep.method(1, 0, 1);
        Check.dueRun("a RUN that ends with 4 FRAMES", deep, 0, 0, DEEP, NONE, 0, 8);
        Check.dueRun("the next begins with one", deep, 0, 0, DEEP, NONE, 0, 8);
    }

    /** So many times PUSH 1. */
    private static PathExplorer pushed(int values) {
        PathExplorer x = new PathExplorer();
        x.method(0, 0, 2);
        for (int n = 0; n < values; n++) {
            Check.emit(x, i(0, 1));
        }
        return x;
    }

    /** "a stack would have 9 VALUES": each operation that puts more than it takes, as 8th and as 9th. */
    private static void eightValues() {
        int[][] rows = {i(0, 1), i(1, 0), i(18), i(19), i(30)};
        for (int[] row : rows) {
            PathExplorer eighth = pushed(7);
            Check.emit(eighth, row, i(31, 7));
            Check.dueRun("operation " + row[0] + " puts the 8th VALUE", eighth, 1, 1, THROWN, 7, 0, 9);
            PathExplorer ninth = pushed(8);
            Check.emit(ninth, row, i(31, 7));
            Check.dueRun("operation " + row[0] + " puts the 9th VALUE", ninth, 1, 1, BROKEN, NONE, 0, 9);
        }
    }

    /** What takes as much as it puts, or puts nothing, can be done on a stack of eight. */
    private static void fullStacks() {
        int[] operations = {
            2, 3, 4, 5, 6, 7, 8, 9, 10, 11, 12, 13, 14, 15, 16, 17, 20, 21, 22, 23, 24, 25, 26, 34,
        };
        for (int operation : operations) {
            PathExplorer x = pushed(8);
            Check.emit(x, i(operation, operation >= 22 && operation <= 25 ? 9 : 0),
                i(22, 10), i(22, 11), i(31, 7));
            Check.due("operation " + operation + " on a full stack", x.run(0, 0), THROWN);
            Check.due("operation " + operation + " on a full stack", x.value(), 7);
        }
        int[][][] arrays = {
            {i(0, 1), i(26), i(29)}, {i(30), i(21), i(31, 7)}, {i(30), i(2, 0), i(31, 7)},
            {i(0, 1), i(26), i(0, 0), i(27)}, {i(0, 1), i(26), i(0, 0), i(0, 5), i(28)},
        };
        for (int[][] rows : arrays) {
            PathExplorer x = pushed(rows.length == 5 ? 5 : rows.length == 4 ? 6 : 7);
            Check.emit(x, rows);
            Check.emit(x, i(31, 7));
            Check.due("arrays on a full stack", x.run(0, 0), THROWN);
            Check.due("arrays on a full stack", x.value(), 7);
        }
        PathExplorer alone = pushed(7);
        Check.emit(alone, i(0, 6), i(32));
        Check.dueRun("RETURN with a full stack of its own", alone, 0, 0, RETURNED, 6, 0, 9);
    }

    /** "takes what the stack lacks": each operation with one VALUE too few, and with just enough. */
    private static void shortStacks() {
        int[] takes = {
            0, 0, 1, 2, 2, 2, 2, 2, 2, 2, 2, 2, 2, 2, 1, 1, 1, 1,
            1, 2, 2, 1, 0, 1, 2, 1, 1, 2, 3, 1, 0, 0, 1, 2, 0,
        };
        for (int operation = 0; operation <= 34; operation++) {
            for (int have = 0; have <= takes[operation]; have++) {
                if (operation != 31 && operation != 22) {
                    dueOnShortStack(operation, takes[operation], have);
                }
            }
        }
        PathExplorer one = Check.program(i(33, 1), i(31, 6));
        one.method(1, 1, 1);
        Check.dueRun("CALL with one argument on an empty stack", one, 0, 0, BROKEN, NONE, 0, 1);
    }

    private static void dueOnShortStack(int operation, int takes, int have) {
        boolean reference = operation >= 27 && operation <= 29;
        PathExplorer x = new PathExplorer();
        x.method(0, 0, 2);
        for (int n = 0; n < have; n++) {
            Check.emit(x, n == 0 && reference ? i(30) : i(0, 1));
        }
        boolean jumps = operation >= 23 && operation <= 25;
        Check.emit(x, i(operation, operation == 33 ? 1 : jumps ? have + 1 : 0), i(31, 7), i(31, 7), i(31, 7));
        x.method(1, have + 1, 2);
        int outcome = have < takes ? BROKEN : operation == 32 ? RETURNED : THROWN;
        long value = have < takes ? NONE : operation == 32 ? 1 : reference ? 4 : 7;
        boolean further = outcome == THROWN && !reference;
        Check.dueRun("operation " + operation + " on a stack of " + have, x, 1, 1, outcome, value, 0,
            have + (further ? 2 : 1));
    }

    /** Each FRAME has a stack of its own: the caller's is neither taken from nor in the way. */
    private static void stacksOfCalls() {
        PathExplorer call = pushed(8);
        Check.emit(call, i(33, 1));
        for (int n = 0; n < 8; n++) {
            Check.emit(call, i(0, 2));
        }
        Check.emit(call, i(31, 7));
        call.method(1, 9, 0);
        Check.dueRun("eight VALUES each", call, 0, 0, THROWN, 7, 0, 18);
        PathExplorer taken = pushed(8);
        Check.emit(taken, i(33, 1), i(31, 7), i(21));
        taken.method(1, 10, 0);
        Check.dueRun("the caller's VALUES are not to be taken", taken, 0, 0, BROKEN, NONE, 0, 10);
        for (int count = 0; count <= 1; count++) {
            PathExplorer eighth = pushed(7 + count);
            Check.emit(eighth, i(33, 1), i(32), i(0, 3), i(32));
            eighth.method(1, 9 + count, count);
            Check.dueRun("RETURN puts the 8th VALUE", eighth, 0, 0, RETURNED, 3, 0, 11 + count);
        }
        PathExplorer ninth = pushed(8);
        Check.emit(ninth, i(33, 1), i(32), i(0, 3), i(32));
        ninth.method(1, 10, 0);
        Check.dueRun("RETURN puts the 9th VALUE", ninth, 0, 0, BROKEN, NONE, 0, 11);
        PathExplorer two = pushed(8);
        Check.emit(two, i(33, 1), i(0, 4), i(32), i(1, 1), i(32));
        two.method(1, 11, 2);
        Check.dueRun("two arguments make room for one result and one more", two, 0, 0, RETURNED, 4, 0, 13);
    }

    /** "else the FRAME that is last now puts x and stands behind its CALL." */
    private static void returning() {
        PathExplorer x = Check.program(
            i(0, 1000), i(1, 0), i(1, 1), i(33, 2), i(3), i(32),
            i(1, 0), i(0, 10), i(5), i(1, 1), i(3), i(1, 2), i(3), i(32));
        x.method(2, 6, 2);
        Check.dueRun("two arguments, the last on top", x, 4, 3, RETURNED, 1043, 0, 14);
        PathExplorer last = Check.program(i(0, 5), i(32));
        for (int n = 2; n < 60; n++) {
            Check.emit(last, n < 59 ? i(31, 9) : i(33, 1));
        }
        last.method(0, 59, 2);
        last.method(1, 0, 0);
        Check.dueRun("no instruction is behind a CALL at 59", last, 0, 0, BROKEN, NONE, 0, 4);
        PathExplorer first = Check.program(i(33, 1), i(32), i(0, 5), i(32));
        first.method(1, 2, 0);
        Check.dueRun("a CALL at 0", first, 0, 0, RETURNED, 5, 0, 4);
        PathExplorer twice = Check.program(i(33, 1), i(33, 1), i(4), i(32), i(0, 5), i(32));
        twice.method(1, 4, 0);
        Check.dueRun("each CALL of the same METHOD goes on behind itself", twice, 0, 0, RETURNED, 0, 0, 8);
    }

    /** "DEEP, if a CALL would make the 5th FRAME" */
    private static void fourFrames() {
        PathExplorer x = Check.program(i(33, 1), i(32));
        x.method(1, 0, 0);
        Check.dueRun("the 5th FRAME", x, 0, 0, DEEP, NONE, 0, 4);
        PathExplorer four = Check.program(
            i(33, 1), i(32), i(33, 2), i(32), i(33, 3), i(32), i(0, 5), i(32));
        four.method(1, 2, 0);
        four.method(2, 4, 0);
        four.method(3, 6, 0);
        Check.dueRun("four FRAMES", four, 0, 0, RETURNED, 5, 0, 8);
        PathExplorer five = Check.program(
            i(33, 1), i(32), i(33, 2), i(32), i(33, 3), i(32), i(33, 2), i(32));
        five.method(1, 2, 0);
        five.method(2, 4, 0);
        five.method(3, 6, 0);
        Check.dueRun("five FRAMES", five, 0, 0, DEEP, NONE, 0, 4);
        PathExplorer entry = Check.program(i(1, 0), i(34, 0, 1), i(1, 0), i(33, 0), i(32));
        Check.dueRun("the ENTRY in itself", entry, 0, 0, DEEP, NONE, 0, 16);
    }

    /** FRAMES that went make room, by RETURN as by RAISING. */
    private static void framesAgain() {
        PathExplorer five = Check.program(
            i(33, 1), i(33, 1), i(33, 1), i(33, 1), i(33, 1), i(32), i(0, 4), i(32));
        five.method(1, 6, 0);
        Check.dueRun("five CALLS, one behind the other", five, 0, 0, RETURNED, 4, 0, 16);
        int[][] lowest = {i(0, 5), i(33, 1)};
        for (int deeper = 0; deeper < 2; deeper++) {
            // 1 handed down raises in the 4th FRAME; then 0 is handed down.
            PathExplorer x = Check.program(
                i(0, 1), i(33, 1), i(32), i(21), i(0, 0), i(33, 1), i(32),
                i(1, 0), i(33, 2), i(32), i(1, 0), i(33, 3), i(32),
                i(1, 0), i(23, 18, 1), i(1, 0), lowest[deeper], i(32), i(31, 6));
            x.method(1, 7, 1);
            x.method(2, 10, 1);
            x.method(3, 13, 1);
            x.handler(1, 2, 3, 0);
            Check.dueRun("four FRAMES behind four that were raised through, and " + deeper + " more", x, 0, 0,
                deeper == 0 ? RETURNED : DEEP, deeper == 0 ? 5 : NONE, 0, deeper == 0 ? 24 : 20);
        }
    }

    /** "one that is not defined: BROKEN" */
    private static void undefinedMethods() {
        for (int m = 1; m < 4; m++) {
            PathExplorer x = Check.program(i(33, m), i(32), i(0, 8), i(32));
            for (int other = 1; other < 4; other++) {
                if (other != m) {
                    x.method(other, 2, 0);
                }
            }
            Check.dueRun("METHOD " + m + " is not defined", x, 0, 0, BROKEN, NONE, 0, 1);
            x.method(m, 2, 0);
            Check.dueRun("METHOD " + m + " is", x, 0, 0, RETURNED, 8, 0, 4);
            x.clear();
            Check.emit(x, i(33, m), i(32), i(0, 8), i(32));
            x.method(0, 0, 2);
            Check.dueRun("METHOD " + m + " is not behind clear", x, 0, 0, BROKEN, NONE, 0, 1);
        }
    }
}
