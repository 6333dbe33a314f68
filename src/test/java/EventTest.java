/** Promises 10 and 11: which EVENTS a RUN has, told by a TEST on one single input. */
public final class EventTest {
    private static final long NONE = PathExplorer.NONE;

    public static void main(String[] args) {
        branches();
        divisions();
        arrays();
        boundness();
        boundCells();
        unbound();
        cutting();
        cutAtPins();
        cutWays();
        facts();
        outOfRange();
        Check.end();
    }

    private static int[] i(int... row) {
        return row;
    }

    /** The EVENTS of the RUN on (p, q), each as instruction, SIDE or INT, and 1 for a PIN. */
    private static void dueEvents(String name, PathExplorer x, int p, int q, int... events) {
        x.range(0, p, p);
        x.range(1, q, q);
        Check.due(name + ": tests", x.explore(0), 1);
        Check.due(name + ": P", x.test(0, 0), p);
        Check.due(name + ": Q", x.test(0, 1), q);
        Check.due(name + ": outcome", x.test(0, 2), x.run(p, q));
        Check.due(name + ": value", x.test(0, 3), x.value());
        Check.due(name + ": events", x.test(0, 4), events.length / 3);
        Check.due(name + ": events of the run", x.count(4), events.length / 3);
        Check.due(name + ": steps", x.test(0, 5), x.count(5));
        for (int n = 0; n < events.length; n++) {
            String call = name + ": event(0, " + n / 3 + ", " + n % 3 + ")";
            Check.due(call, x.event(0, n / 3, n % 3), events[n]);
        }
        for (int what = 0; what < 3; what++) {
            Check.due(name + ": one more", x.event(0, events.length / 3, what), NONE);
        }
    }

    private static void branches() {
        PathExplorer one = Check.program(i(1, 0), i(23, 2, 2), i(1, 0), i(32));
        dueEvents("IF jumps", one, -1, 0, 1, 1, 0);
        dueEvents("IF does not", one, 0, 0, 1, 0, 0);
        PathExplorer first = Check.program(i(1, 0), i(0, 2), i(24, 3, 0), i(1, 0), i(32));
        dueEvents("IFCMP, x is bound", first, 2, 0, 2, 1, 0);
        dueEvents("IFCMP, x is bound", first, 3, 0, 2, 0, 0);
        PathExplorer second = Check.program(i(0, 2), i(1, 1), i(24, 3, 0), i(1, 0), i(32));
        dueEvents("IFCMP, y is bound", second, 0, 2, 2, 1, 0);
        PathExplorer choice = Check.program(i(1, 0), i(25, 2, 5), i(0), i(0), i(0), i(0), i(32));
        dueEvents("SWITCH below", choice, 4, 0, 1, 3, 0);
        dueEvents("SWITCH 0", choice, 5, 0, 1, 0, 0);
        dueEvents("SWITCH 1", choice, 6, 0, 1, 1, 0);
        dueEvents("SWITCH 2", choice, 7, 0, 1, 2, 0);
        dueEvents("SWITCH above", choice, 8, 0, 1, 3, 0);
    }

    private static void divisions() {
        for (int operation = 6; operation <= 7; operation++) {
            PathExplorer y = Check.program(i(0, 6), i(1, 0), i(operation), i(32));
            dueEvents("y is 0", y, 0, 0, 2, 1, 0);
            dueEvents("y is not", y, 3, 0, 2, 0, 0);
            PathExplorer x = Check.program(i(1, 0), i(0, 2), i(operation), i(32));
            dueEvents("only x is bound", x, 3, 0);
            PathExplorer zero = Check.program(i(1, 0), i(0, 0), i(operation), i(32));
            dueEvents("only x is bound, by 0", zero, 3, 0);
        }
    }

    private static void arrays() {
        PathExplorer make = Check.program(i(1, 0), i(26), i(29), i(32));
        dueEvents("NEW", make, 3, 0, 1, 0, 0, 1, 3, 1);
        dueEvents("NEW of 0", make, 0, 0, 1, 0, 0, 1, 0, 1);
        dueEvents("NEW of 8", make, 8, 0, 1, 0, 0, 1, 8, 1);
        dueEvents("NEW below 0", make, -1, 0, 1, 1, 0);
        dueEvents("NEW at a LIMIT", make, 9, 0, 1, 0, 0);
        PathExplorer load = Check.program(i(0, 2), i(26), i(1, 0), i(27), i(32));
        dueEvents("ALOAD", load, 1, 0, 3, 0, 0, 3, 1, 1);
        dueEvents("ALOAD above", load, 2, 0, 3, 1, 0);
        dueEvents("ALOAD below", load, -1, 0, 3, 1, 0);
        PathExplorer store = Check.program(i(0, 2), i(26), i(1, 0), i(0), i(28), i(0), i(32));
        dueEvents("ASTORE", store, 0, 0, 4, 0, 0, 4, 0, 1);
        dueEvents("ASTORE above", store, 2, 0, 4, 1, 0);
        PathExplorer plain = Check.program(i(0, 2), i(26), i(0, 1), i(1, 0), i(28), i(0), i(32));
        dueEvents("ASTORE of a bound z at a plain y", plain, 0, 0);
        dueEvents("null has no cells to decide on", Check.program(i(30), i(1, 0), i(27)), 0, 0);
        dueEvents("null has no cells to decide on", Check.program(i(30), i(1, 0), i(0), i(28)), 0, 0);
        PathExplorer ninth = Check.program(
            i(0), i(26), i(21), i(34, 2, 1), i(1, 2), i(0, 8), i(24, 0, 2), i(1, 0), i(26));
        dueEvents("the 9th array is decided, not pinned", ninth, 1, 0, 8, 0, 0);
        dueEvents("below 0 there", ninth, -1, 0, 8, 1, 0);
    }

    /** Each program ends in an IF that is a DECISION only if what it takes is INPUT-BOUND. */
    private static void boundness() {
        for (int operation = 3; operation <= 13; operation++) {
            int events = operation == 6 || operation == 7 ? 1 : 0;
            PathExplorer x = Check.program(i(1, 0), i(0, 1), i(operation), i(23, 4), i(0), i(32));
            x.run(5, 1);
            Check.due("operation " + operation + ", x is bound", x.count(4), 1);
            PathExplorer y = Check.program(i(0, 1), i(1, 1), i(operation), i(23, 4), i(0), i(32));
            y.run(5, 1);
            Check.due("operation " + operation + ", y is bound", y.count(4), 1 + events);
            PathExplorer none = Check.program(i(0, 1), i(0, 1), i(operation), i(23, 4), i(0), i(32));
            none.run(5, 1);
            Check.due("operation " + operation + ", none is bound", none.count(4), 0);
        }
        for (int operation = 14; operation <= 17; operation++) {
            PathExplorer x = Check.program(i(1, 0), i(operation), i(23, 3), i(0), i(32));
            x.run(5, 1);
            Check.due("operation " + operation + ", bound", x.count(4), 1);
        }
        dueEvents("Q is bound", Check.program(i(1, 1), i(23, 2), i(0), i(32)), 0, 0, 1, 1, 0);
        dueEvents("34 keeps it", Check.program(i(34, 0, 2), i(1, 0), i(23, 3), i(0), i(32)), 0, 0, 2, 0, 0);
        dueEvents("P times 0 is bound", Check.program(i(1, 0), i(0), i(5), i(23, 4), i(0), i(32)), 0, 0, 3, 1, 0);
        dueEvents("STORE and LOAD copy it",
            Check.program(i(1, 0), i(2, 3), i(1, 3), i(23, 4), i(0), i(32)), 0, 0, 3, 1, 0);
        dueEvents("DUP copies it", Check.program(i(1, 0), i(18), i(23, 3), i(23, 4), i(0), i(32)), 0, 0,
            2, 1, 0, 3, 1, 0);
        dueEvents("SWAP moves it", Check.program(i(1, 0), i(0, 9), i(20), i(23, 4), i(23, 5), i(0), i(32)), 0, 0,
            3, 1, 0);
        dueEvents("DUP X1 copies y", Check.program(i(0, 9), i(1, 0), i(19), i(23, 4), i(23, 5), i(23, 6), i(0), i(32)),
            0, 0, 3, 1, 0, 5, 1, 0);
        PathExplorer call = Check.program(i(1, 0), i(33, 1), i(23, 3), i(0), i(32), i(1, 0), i(23, 7), i(1, 0), i(32));
        call.method(1, 5, 1);
        dueEvents("CALL and RETURN copy it", call, 0, 0, 6, 1, 0, 2, 1, 0);
    }

    /** "the result of 27 is as the cell", however it was found; a copy of what is pinned stays as it is. */
    private static void boundCells() {
        PathExplorer cell = Check.program(
            i(0, 2), i(26), i(2, 2), i(1, 2), i(0, 1), i(1, 0), i(28),
            i(1, 2), i(0, 1), i(27), i(23, 11), i(1, 2), i(0, 0), i(27), i(23, 15), i(0), i(32));
        dueEvents("a cell keeps it, its neighbour does not have it", cell, 0, 0, 10, 1, 0);
        PathExplorer over = Check.program(
            i(0, 1), i(26), i(2, 2), i(1, 2), i(0), i(1, 0), i(28), i(1, 2), i(0), i(0, 4), i(28),
            i(1, 2), i(0), i(27), i(23, 15), i(0), i(32));
        dueEvents("a plain INT over it", over, 0, 0);
        PathExplorer pinned = Check.program(
            i(0, 1), i(26), i(2, 2), i(1, 2), i(1, 0), i(1, 1), i(28),
            i(1, 2), i(1, 0), i(27), i(23, 11), i(0), i(32));
        dueEvents("a bound cell at a pinned place", pinned, 0, 5, 6, 0, 0, 6, 0, 1, 9, 0, 0, 9, 0, 1, 10, 0, 0);
        PathExplorer fresh = Check.program(i(1, 0), i(26), i(0), i(27), i(23, 5), i(0), i(32));
        dueEvents("a cell of an array of a pinned length", fresh, 1, 0, 1, 0, 0, 1, 1, 1);
        PathExplorer again = Check.program(
            i(0, 1), i(26), i(2, 2), i(1, 2), i(0), i(27), i(23, 7), i(1, 2), i(0), i(1, 0), i(28), i(0), i(32));
        for (int runs = 0; runs < 2; runs++) {
            dueEvents("a cell that was bound in the RUN before", again, 1, 0);
        }
        PathExplorer copy = Check.program(i(1, 0), i(18), i(26), i(21), i(23, 5), i(0), i(32));
        dueEvents("a copy of what NEW takes", copy, 2, 0, 2, 0, 0, 2, 2, 1, 4, 0, 0);
        PathExplorer place = Check.program(i(0, 3), i(26), i(1, 0), i(19), i(27), i(21), i(23, 7), i(0), i(32));
        dueEvents("a copy of what ALOAD takes", place, 2, 0, 4, 0, 0, 4, 2, 1, 6, 0, 0);
    }

    private static void unbound() {
        dueEvents("PUSH", Check.program(i(0, 0), i(23, 2), i(0), i(32)), 0, 0);
        dueEvents("local 2", Check.program(i(1, 2), i(23, 2), i(0), i(32)), 0, 0);
        dueEvents("34 on a plain local", Check.program(i(34, 2, 5), i(1, 2), i(23, 3), i(0), i(32)), 0, 0);
        dueEvents("a plain INT over P", Check.program(i(0, 5), i(2, 0), i(1, 0), i(23, 4), i(0), i(32)), 0, 0);
        dueEvents("a plain IFCMP", Check.program(i(0, 5), i(0, 5), i(24, 3), i(0), i(32)), 0, 0);
        for (int operation = 14; operation <= 17; operation++) {
            dueEvents("a plain " + operation, Check.program(i(0, 5), i(operation), i(23, 3), i(0), i(32)), 0, 0);
        }
        dueEvents("a plain SWITCH", Check.program(i(0, 1), i(25, 2, 1), i(0), i(32)), 0, 0);
        dueEvents("a plain NEW", Check.program(i(0, 1), i(26), i(0), i(32)), 0, 0);
        dueEvents("a plain NEW below 0", Check.program(i(0, -1), i(26), i(0), i(32)), 0, 0);
        dueEvents("a plain ALOAD that raises", Check.program(i(0, 1), i(26), i(0, 1), i(27), i(32)), 0, 0);
        dueEvents("the LENGTH of a pinned array",
            Check.program(i(1, 0), i(26), i(29), i(23, 4), i(0), i(32)), 2, 0, 1, 0, 0, 1, 2, 1);
        dueEvents("a plain cell at a pinned place",
            Check.program(i(0, 1), i(26), i(1, 0), i(27), i(23, 5), i(0), i(32)), 0, 0, 3, 0, 0, 3, 0, 1);
        PathExplorer again = Check.program(i(1, 0), i(26), i(21), i(1, 0), i(23, 5), i(0), i(32));
        dueEvents("P itself stays bound behind the PIN", again, 0, 0, 1, 0, 0, 1, 0, 1, 4, 1, 0);
        PathExplorer caught = Check.program(i(0, 6), i(1, 0), i(6), i(23, 4), i(0), i(32));
        caught.handler(0, 3, 3, 1);
        dueEvents("what was raised", caught, 0, 0, 2, 1, 0);
    }

    /** P DECISIONS at 2, of which the last has SIDE 0; then the tail, which begins at 3. */
    private static PathExplorer counting(int[]... tail) {
        PathExplorer x = Check.program(i(34, 0, -1), i(1, 0), i(23, 0, 4));
        Check.emit(x, tail);
        return x;
    }

    /** "the first 20 of them (a RUN with more is CUT)" */
    private static void cutting() {
        for (int events = 18; events <= 23; events++) {
            PathExplorer x = counting(i(0, 6), i(32));
            int recorded = Math.min(events, 20);
            x.range(0, events, events);
            x.explore(0);
            Check.due(events + " EVENTS", x.test(0, 4), recorded);
            Check.due(events + " EVENTS: outcome", x.test(0, 2), PathExplorer.RETURNED);
            Check.due(events + " EVENTS: STEPS", x.test(0, 5), 3 * events + 2);
            Check.due(events + " EVENTS: COMPLETE", x.complete(), events <= 20);
            Check.due(events + " EVENTS: SIDE 0", x.covered(2, 0), events <= 20);
            for (int n = 0; n < 22; n++) {
                Check.due(events + " EVENTS: event(0, " + n + ", 1)", x.event(0, n, 1),
                    n >= recorded ? NONE : n == events - 1 ? 0 : 1);
                Check.due(events + " EVENTS: event(0, " + n + ", 2)", x.event(0, n, 2), n >= recorded ? NONE : 0);
            }
            x.run(events, 0);
            Check.due(events + " EVENTS in a run", x.count(4), recorded);
        }
    }

    /** The 20th EVENT may be a PIN, or be the DECISION whose PIN is the 21st. */
    private static void cutAtPins() {
        for (int before = 17; before <= 20; before++) {
            PathExplorer x = counting(i(1, 1), i(26), i(0), i(32));
            x.range(0, before, before);
            x.range(1, 7, 7);
            x.explore(0);
            Check.due("NEW behind " + before + ": EVENTS", x.test(0, 4), Math.min(before + 2, 20));
            Check.due("NEW behind " + before + ": the DECISION", x.event(0, before, 0), before < 20 ? 4 : NONE);
            Check.due("NEW behind " + before + ": no PIN", x.event(0, before, 2), before < 20 ? 0 : NONE);
            Check.due("NEW behind " + before + ": the PIN", x.event(0, before + 1, 2), before < 19 ? 1 : NONE);
            Check.due("NEW behind " + before + ": its INT", x.event(0, before + 1, 1), before < 19 ? 7 : NONE);
            Check.due("NEW behind " + before + ": covered", x.covered(4, 0), before < 20);
            Check.due("NEW behind " + before + ": COMPLETE", x.complete(), false);
        }
        PathExplorer below = counting(i(1, 1), i(26), i(0), i(32));
        below.range(0, 19, 19);
        below.range(1, -1, -1);
        below.explore(0);
        Check.due("without a PIN it is not CUT", below.complete(), true);
    }

    /** The 20th EVENT is turned round, what is not recorded is not. */
    private static void cutWays() {
        PathExplorer x = counting(i(0, 6), i(32));
        x.range(0, 20, 22);
        Check.due("the 20th DECISION has another SIDE", x.explore(0), 2);
        Check.due("its input", x.test(1, 0), 21);
        Check.due("SIDE 0 of those before is INFEASIBLE", x.count(3), 19);
        Check.due("the other is CUT", x.complete(), false);
        x.range(0, 21, 22);
        Check.due("the 21st has none", x.explore(0), 1);
        Check.due("SIDE 0 of all is INFEASIBLE", x.count(3), 20);
        x.range(0, 19, 20);
        Check.due("two that are not CUT", x.explore(0), 2);
        Check.due("so all is COMPLETE", x.complete(), true);
    }

    /** "0: P, 1: Q, 2: the outcome, 3: the int RETURNED or THROWN (NONE if it ended else), 4: EVENTS recorded, 5: STEPS." */
    private static void facts() {
        int[][][] codes = {
            {i(0, -1), i(32)}, {i(31, 9)}, {i(22, 3)}, {i(21)}, {i(33, 1)}, {i(0, 9), i(26)},
        };
        long[] values = {-1, 9, NONE, NONE, NONE, NONE};
        int[] steps = {5, 4, 150, 4, 7, 5};
        for (int outcome = 0; outcome < 6; outcome++) {
            PathExplorer x = Check.program(i(1, 0), i(1, 1), i(24, 3, 0));
            Check.emit(x, codes[outcome]);
            x.method(1, 3, 0);
            x.range(0, -7, -7);
            x.range(1, 11, 11);
            Check.due("explore", x.explore(0), 1);
            long[] facts = {-7, 11, outcome, values[outcome], 1, steps[outcome]};
            for (int what = 0; what < 6; what++) {
                Check.due("outcome " + outcome + ": test(0, " + what + ")", x.test(0, what), facts[what]);
                Check.due("outcome " + outcome + ": test(1, " + what + ")", x.test(1, what), NONE);
            }
            Check.due("outcome " + outcome + ": test(0, 6)", x.test(0, 6), NONE);
        }
    }

    private static void outOfRange() {
        PathExplorer x = Check.program(i(1, 0), i(23, 2, 1), i(0), i(32));
        Check.due("explore", x.explore(0), 2);
        int[] wrong = {Integer.MIN_VALUE, -1, 2, 40, Integer.MAX_VALUE};
        for (int k : wrong) {
            Check.due("test(" + k + ", 0)", x.test(k, 0), NONE);
            Check.due("event(" + k + ", 0, 0)", x.event(k, 0, 0), NONE);
        }
        int[] noFact = {Integer.MIN_VALUE, -1, 6, Integer.MAX_VALUE};
        for (int what : noFact) {
            Check.due("test(0, " + what + ")", x.test(0, what), NONE);
        }
        int[] noEvent = {Integer.MIN_VALUE, -1, 1, 20, Integer.MAX_VALUE};
        for (int n : noEvent) {
            Check.due("event(0, " + n + ", 0)", x.event(0, n, 0), NONE);
        }
        int[] noPart = {Integer.MIN_VALUE, -1, 3, Integer.MAX_VALUE};
        for (int what : noPart) {
            Check.due("event(0, 0, " + what + ")", x.event(0, 0, what), NONE);
        }
    }
}
