/** What the tests share: a list of wrong answers, and short ways to write programs. */
final class Check {
    private static int wrong = 0;
    private static int right = 0;

    private Check() {
    }

    static void due(String what, long got, long want) {
        if (got == want) {
            right++;
        } else {
            wrong++;
            System.out.println(what + " answered " + got + ", due is " + want);
        }
    }

    static void due(String what, boolean got, boolean want) {
        due(what, got ? 1L : 0L, want ? 1L : 0L);
    }

    /** Ends the test: with exit code 1 if an answer was wrong, or none was asked for. */
    static void end() {
        System.out.println("  " + right + " answers as due, " + wrong + " not");
        if (wrong > 0 || right == 0) {
            System.exit(1);
        }
    }

    /** A new object with a program whose ENTRY begins at 0; each row is an operation, a and b. */
    static PathExplorer program(int[]... instructions) {
        PathExplorer x = new PathExplorer();
        x.method(0, 0, 2);
        emit(x, instructions);
        return x;
    }

    static void emit(PathExplorer x, int[]... instructions) {
        for (int[] row : instructions) {
            int a = row.length > 1 ? row[1] : 0;
            int b = row.length > 2 ? row[2] : 0;
            if (x.emit(row[0], a, b) < 0) {
                throw new IllegalStateException("the test's own program was refused");
            }
        }
    }

    static int[] i(int... row) {
        return row;
    }

    /** A program that spends so many STEPS (2 or more), none of them an EVENT, before the tail begins. */
    static PathExplorer delayed(int before, int[]... tail) {
        PathExplorer x = program(i(0, (before - 2) / 3), i(2, 2), i(34, 2, -1), i(1, 2), i(23, 2, 1));
        for (int n = 5; n < tailStart(before); n++) {
            emit(x, i(34, 2, 0));
        }
        emit(x, tail);
        return x;
    }

    /** The number of the tail's first instruction. */
    static int tailStart(int before) {
        return 5 + (before - 2) % 3;
    }

    /** A run's outcome, value, EVENTS and STEPS at once. */
    static void dueRun(String what, PathExplorer x, int p, int q, int outcome, long value, int events, int steps) {
        due(what + ": outcome", x.run(p, q), outcome);
        due(what + ": value", x.value(), value);
        due(what + ": events", x.count(4), events);
        due(what + ": steps", x.count(5), steps);
    }
}
