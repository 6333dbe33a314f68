/** RAISING, with and without a HANDLER, and through several FRAMES. */
public final class RaiseTest {
    private static final int RETURNED = PathExplorer.RETURNED;
    private static final int THROWN = PathExplorer.THROWN;
    private static final int TIRED = PathExplorer.TIRED;
    private static final int BROKEN = PathExplorer.BROKEN;
    private static final int DEEP = PathExplorer.DEEP;
    private static final int LIMIT = PathExplorer.LIMIT;
    private static final long NONE = PathExplorer.NONE;

    public static void main(String[] args) {
        kinds();
        spans();
        firstHandler();
        seventhHandler();
        stackOfE();
        places();
        raisedAgain();
        throughFrames();
        throughFramesByKind();
        handlersOfTheCalled();
        callAtTheEnd();
        notForEnds();
        Check.end();
    }

    private static int[] i(int... row) {
        return row;
    }

    /** Instructions 0 to 3 that raise e at 3, whatever the inputs are. */
    private static PathExplorer raising(int e) {
        int[][][] rows = {
            {i(34, 3, 0), i(0, 1), i(0, 0), i(6)},
            {i(0, 0), i(26), i(0, 0), i(27)},
            {i(34, 3, 0), i(34, 3, 0), i(0, -1), i(26)},
            {i(34, 3, 0), i(34, 3, 0), i(30), i(29)},
        };
        int[][] thrown = {i(34, 3, 0), i(34, 3, 0), i(34, 3, 0), i(31, e)};
        return Check.program(e <= 4 ? rows[e - 1] : thrown);
    }

    /** "the first HANDLER with from <= p < to and kind 0 or e" "there is none: the RUN has THROWN e." */
    private static void kinds() {
        for (int e = 1; e <= 9; e++) {
            Check.dueRun(e + " without a HANDLER", raising(e), 0, 0, THROWN, e, 0, 4);
            for (int kind = 0; kind <= 9; kind++) {
                PathExplorer x = raising(e);
                Check.emit(x, i(32));
                x.handler(3, 4, 4, kind);
                boolean caught = kind == 0 || kind == e;
                Check.dueRun(e + " with kind " + kind, x, 0, 0, caught ? RETURNED : THROWN, e, 0, caught ? 5 : 4);
            }
        }
    }

    private static void spans() {
        // Where it is raised, from, to, and whether it is caught.
        int[][] rows = {
            {0, 0, 1, 1}, {0, 0, 60, 1}, {0, 0, 0, 0}, {0, 1, 60, 0}, {0, 1, 0, 0}, {0, 60, 60, 0},
            {10, 10, 11, 1}, {10, 0, 60, 1}, {10, 0, 11, 1}, {10, 10, 60, 1}, {10, 9, 12, 1},
            {10, 0, 10, 0}, {10, 11, 60, 0}, {10, 10, 10, 0}, {10, 11, 10, 0}, {10, 11, 11, 0}, {10, 60, 0, 0},
            {59, 59, 60, 1}, {59, 0, 60, 1}, {59, 0, 59, 0}, {59, 59, 59, 0}, {59, 60, 60, 0}, {59, 60, 59, 0},
        };
        for (int[] row : rows) {
            PathExplorer x = new PathExplorer();
            for (int n = 0; n < 60; n++) {
                Check.emit(x, n == row[0] ? i(31, 6) : i(32));
            }
            x.method(0, row[0], 2);
            x.handler(row[1], row[2], 20, 0);
            boolean caught = row[3] == 1;
            Check.dueRun("raised at " + row[0] + ", HANDLER from " + row[1] + " to " + row[2], x, 0, 0,
                caught ? RETURNED : THROWN, 6, 0, caught ? 2 : 1);
        }
    }

    private static PathExplorer sixPlaces() {
        PathExplorer x = Check.program(i(31, 6));
        for (int n = 0; n < 7; n++) {
            Check.emit(x, i(0, n), i(32));
        }
        return x;
    }

    /** The first in the order in which they were added, be it the last of six. */
    private static void firstHandler() {
        for (int fits = 0; fits < 6; fits++) {
            PathExplorer x = sixPlaces();
            for (int h = 0; h < 6; h++) {
                // Those before it do not fit by their span or by their kind, by turns.
                boolean early = h < fits;
                boolean bySpan = h % 2 == 0;
                x.handler(0, early && bySpan ? 0 : 1, 1 + 2 * h, bySpan ? 0 : early ? 7 : 6);
            }
            Check.dueRun("HANDLER " + fits + " is the first that fits", x, 0, 0, RETURNED, fits, 0, 3);
        }
        PathExplorer none = sixPlaces();
        for (int h = 0; h < 6; h++) {
            none.handler(h % 2, 1, 1, h % 2 == 0 ? 7 : 6);
        }
        Check.dueRun("none of six fits", none, 0, 0, THROWN, 6, 0, 1);
    }

    private static void seventhHandler() {
        PathExplorer x = sixPlaces();
        for (int h = 0; h < 6; h++) {
            x.handler(1, 60, 1, 0);
        }
        Check.due("the 7th", x.handler(0, 1, 13, 0), PathExplorer.FULL);
        Check.dueRun("is not there", x, 0, 0, THROWN, 6, 0, 1);
    }

    /** "the FRAME's stack becomes just the INT e" */
    private static void stackOfE() {
        for (int before = 0; before <= 8; before++) {
            for (int behind = 6; behind <= 8; behind++) {
                PathExplorer x = new PathExplorer();
                x.method(0, 0, 2);
                for (int n = 0; n < before; n++) {
                    Check.emit(x, n % 2 == 0 ? i(30) : i(1, 0));
                }
                Check.emit(x, i(31, 6));
                x.handler(0, 60, before + 1, 6);
                for (int n = 0; n < behind; n++) {
                    Check.emit(x, i(0, 1));
                }
                Check.emit(x, i(32));
                Check.dueRun("e behind " + before + " VALUES, with " + behind + " more", x, 0, 0,
                    behind < 8 ? RETURNED : BROKEN, behind < 8 ? 1 : NONE, 0, before + 1 + behind + (behind < 8 ? 1 : 0));
            }
            PathExplorer one = new PathExplorer();
            one.method(0, 0, 2);
            for (int n = 0; n < before; n++) {
                Check.emit(one, i(0, 1));
            }
            Check.emit(one, i(31, 6), i(21), i(21));
            one.handler(0, 60, before + 1, 6);
            Check.dueRun("there is nothing under e", one, 0, 0, BROKEN, NONE, 0, before + 3);
        }
        PathExplorer locals = Check.program(i(0, 40), i(2, 2), i(1, 0), i(0, 0), i(6), i(1, 2), i(3), i(32));
        locals.handler(0, 5, 5, 1);
        Check.dueRun("the locals stay", locals, 1, 0, RETURNED, 41, 0, 8);
    }

    /** "it stands at the HANDLER's place": the first, the last, none, and the very same. */
    private static void places() {
        PathExplorer x = Check.program(i(32), i(31, 6));
        for (int n = 2; n < 60; n++) {
            Check.emit(x, n < 59 ? i(31, 9) : i(32));
        }
        x.method(0, 1, 2);
        x.handler(1, 2, 0, 6);
        Check.dueRun("place 0", x, 0, 0, RETURNED, 6, 0, 2);
        int[][] rows = {{59, RETURNED}, {60, BROKEN}};
        for (int[] row : rows) {
            PathExplorer y = Check.program(i(31, 6));
            for (int n = 1; n < 60; n++) {
                Check.emit(y, i(32));
            }
            y.handler(0, 1, row[0], 0);
            Check.dueRun("place " + row[0], y, 0, 0, row[1], row[1] == RETURNED ? 6 : NONE, 0, 2);
        }
        PathExplorer missing = Check.program(i(31, 6));
        missing.handler(0, 60, 1, 0);
        Check.dueRun("a place without an instruction", missing, 0, 0, BROKEN, NONE, 0, 2);
        PathExplorer loop = Check.program(i(31, 6));
        loop.handler(0, 1, 0, 0);
        Check.dueRun("its own place", loop, 0, 0, TIRED, NONE, 0, 150);
    }

    private static void raisedAgain() {
        PathExplorer x = Check.program(i(31, 6), i(31, 7), i(32));
        x.handler(0, 1, 1, 6);
        Check.dueRun("raised behind a HANDLER", x, 0, 0, THROWN, 7, 0, 2);
        x.handler(0, 2, 2, 7);
        Check.dueRun("and caught by another", x, 0, 0, RETURNED, 7, 0, 3);
    }

    /** Four FRAMES, of which the last raises 8; behind 13, local 2 of who has caught it is added. */
    private static PathExplorer chain() {
        PathExplorer x = Check.program(
            i(34, 2, 40), i(0, 1), i(33, 1), i(32), i(0, 2), i(33, 2), i(32), i(0, 3), i(33, 3), i(32),
            i(0, 4), i(31, 8), i(32), i(1, 2), i(3), i(32));
        x.method(1, 4, 0);
        x.method(2, 7, 0);
        x.method(3, 10, 0);
        return x;
    }

    /** "None: the FRAME goes, and e is raised at the CALL of the FRAME that is last now" */
    private static void throughFrames() {
        Check.dueRun("through four FRAMES", chain(), 0, 0, THROWN, 8, 0, 9);
        int[] places = {2, 5, 8, 11};
        for (int n = 0; n < 4; n++) {
            PathExplorer x = chain();
            x.handler(places[n], places[n] + 1, 13, 0);
            Check.dueRun("caught in FRAME " + n, x, 0, 0, RETURNED, n == 0 ? 48 : 8, 0, 12 + n);
            PathExplorer alone = chain();
            alone.handler(places[n], places[n] + 1, 14, 0);
            Check.dueRun("FRAME " + n + " has just e", alone, 0, 0, BROKEN, NONE, 0, 10);
        }
        PathExplorer beside = chain();
        int[][] spans = {{0, 2}, {3, 5}, {6, 8}, {9, 11}, {12, 60}};
        for (int[] span : spans) {
            beside.handler(span[0], span[1], 13, 0);
        }
        Check.dueRun("not caught before or behind the CALLS", beside, 0, 0, THROWN, 8, 0, 9);
        PathExplorer inner = chain();
        inner.handler(2, 3, 60, 0);
        inner.handler(5, 6, 60, 0);
        inner.handler(8, 9, 13, 0);
        Check.dueRun("the inner FRAME comes first, not the first HANDLER", inner, 0, 0, RETURNED, 8, 0, 14);
    }

    private static void throughFramesByKind() {
        PathExplorer x = chain();
        x.handler(11, 12, 60, 7);
        x.handler(8, 9, 60, 9);
        x.handler(5, 6, 60, 1);
        x.handler(2, 3, 13, 8);
        Check.dueRun("each FRAME asks for the kind", x, 0, 0, RETURNED, 48, 0, 12);
        PathExplorer none = chain();
        none.handler(0, 60, 13, 7);
        none.handler(0, 60, 13, 9);
        Check.dueRun("no FRAME has the kind", none, 0, 0, THROWN, 8, 0, 9);
        for (int e = 1; e <= 9; e++) {
            PathExplorer any = raising(e);
            Check.emit(any, i(33, 1), i(32));
            any.method(0, 4, 2);
            any.method(1, 0, 0);
            Check.dueRun(e + " in a CALL", any, 0, 0, THROWN, e, 0, 5);
            any.handler(4, 5, 5, e);
            Check.dueRun(e + " caught at the CALL", any, 0, 0, RETURNED, e, 0, 6);
        }
    }

    /** HANDLERS are asked with the place in each FRAME, so one METHOD's are not another's. */
    private static void handlersOfTheCalled() {
        PathExplorer x = Check.program(i(33, 1), i(32), i(34, 2, 0), i(31, 5), i(34, 2, 0));
        x.method(1, 2, 0);
        x.handler(2, 3, 1, 0);
        x.handler(4, 5, 1, 0);
        Check.dueRun("a HANDLER beside the THROW", x, 0, 0, THROWN, 5, 0, 3);
        PathExplorer self = Check.program(i(33, 1), i(32), i(33, 2), i(32), i(31, 5));
        self.method(1, 2, 0);
        self.method(2, 4, 0);
        self.handler(2, 3, 3, 5);
        Check.dueRun("at the CALL in the METHOD", self, 0, 0, RETURNED, 5, 0, 5);
    }

    private static void callAtTheEnd() {
        PathExplorer x = Check.program(i(31, 6), i(32));
        for (int n = 2; n < 60; n++) {
            Check.emit(x, n < 59 ? i(31, 9) : i(33, 1));
        }
        x.method(0, 59, 2);
        x.method(1, 0, 0);
        Check.dueRun("a CALL at 59 without a HANDLER", x, 0, 0, THROWN, 6, 0, 2);
        x.handler(59, 60, 1, 0);
        Check.dueRun("a CALL at 59 with one", x, 0, 0, RETURNED, 6, 0, 3);
    }

    /** A RUN that ends TIRED, BROKEN, DEEP or at a LIMIT raises nothing. */
    private static void notForEnds() {
        dueUncaught("BROKEN", Check.program(i(21), i(32)), BROKEN, 1);
        dueUncaught("an undefined METHOD", Check.program(i(33, 2), i(32)), BROKEN, 1);
        dueUncaught("no instruction", Check.program(i(22, 40), i(32)), BROKEN, 2);
        dueUncaught("DEEP", Check.program(i(33, 1), i(32)), DEEP, 4);
        dueUncaught("LIMIT", Check.program(i(0, 9), i(26), i(32)), LIMIT, 2);
        dueUncaught("TIRED", Check.program(i(22, 0), i(32)), TIRED, 150);
    }

    private static void dueUncaught(String name, PathExplorer x, int outcome, int steps) {
        x.method(1, 0, 0);
        for (int kind = 0; kind <= 5; kind++) {
            x.handler(0, 60, 1, kind);
        }
        Check.dueRun(name + " is not caught", x, 0, 0, outcome, NONE, 0, steps);
    }
}
