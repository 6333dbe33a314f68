/** Promises 9 to 14: EXPLORING in both ways, COMPLETE, covered and the counts. */
public final class ExploreTest {
    public static void main(String[] args) {
        ways();
        order();
        switchSides();
        leastInput();
        corners();
        infeasible();
        infeasibleOnce();
        oneInput();
        fortyTests();
        lastOfFortyTests();
        chain();
        manyTimesForty();
        fullTable();
        completeness();
        covered();
        refusals();
        anew();
        Check.end();
    }

    private static int[] i(int... row) {
        return row;
    }

    /** Bits of P, then of Q, each asked by an IF that jumps if it is set; n of them. */
    private static PathExplorer bits(int n) {
        PathExplorer x = new PathExplorer();
        x.method(0, 0, 2);
        for (int bit = 0; bit < n; bit++) {
            Check.emit(x, i(1, bit / 4), i(0, 1 << bit % 4), i(8), i(23, 4 * bit + 4, 1));
        }
        Check.emit(x, i(0, 1), i(32));
        x.range(0, 0, 15);
        x.range(1, 0, 15);
        return x;
    }

    private static void dueInputs(String name, PathExplorer x, int way, int... inputs) {
        Check.due(name + ": explore", x.explore(way), inputs.length / 2);
        Check.due(name + ": count(2)", x.count(2), inputs.length / 2);
        for (int n = 0; n < inputs.length; n++) {
            Check.due(name + ": test(" + n / 2 + ", " + n % 2 + ")", x.test(n / 2, n % 2), inputs[n]);
        }
        Check.due(name + ": no further TEST", x.test(inputs.length / 2, 0), PathExplorer.NONE);
    }

    private static void ways() {
        PathExplorer x = bits(3);
        dueInputs("newest first", x, 0, 0, 0, 4, 0, 2, 0, 6, 0, 1, 0, 5, 0, 3, 0, 7, 0);
        Check.due("most WORK, newest first", x.count(6), 3);
        Check.due("nothing INFEASIBLE", x.count(3), 0);
        Check.due("COMPLETE", x.complete(), true);
        dueInputs("oldest first", x, 1, 0, 0, 1, 0, 2, 0, 4, 0, 3, 0, 5, 0, 6, 0, 7, 0);
        Check.due("most WORK, oldest first", x.count(6), 4);
        Check.due("nothing INFEASIBLE", x.count(3), 0);
        Check.due("COMPLETE", x.complete(), true);
        PathExplorer none = Check.program(i(0, 5), i(32));
        dueInputs("no DECISION", none, 0, 0, 0);
        Check.due("the first input is WORK", none.count(6), 1);
        Check.due("COMPLETE", none.complete(), true);
    }

    private static void order() {
        // Q decides first: the least input by P, then by Q, still has the least P.
        PathExplorer x = Check.program(i(1, 1), i(1, 0), i(3), i(0, 2), i(24, 5, 0), i(0, 1), i(32));
        dueInputs("P, then Q", x, 0, 0, 0, 0, 2);
        x.range(1, 0, 1);
        dueInputs("a greater P, if there must be", x, 0, 0, 0, 1, 1);
        x.range(0, -3, 4);
        x.range(1, -2, 9);
        dueInputs("below 0", x, 0, -3, -2, -3, 5);
    }

    private static void switchSides() {
        PathExplorer x = Check.program(i(1, 0), i(25, 2, 1), i(0), i(0), i(0), i(0, 7), i(32));
        dueInputs("SIDES from 0 up, oldest first", x, 1, 0, 0, 1, 0, 2, 0, 3, 0);
        Check.due("three at once", x.count(6), 3);
        dueInputs("SIDES from 0 up, newest first", x, 0, 0, 0, 3, 0, 2, 0, 1, 0);
        for (int side = 0; side < 4; side++) {
            Check.due("SIDE " + side, x.covered(1, side), true);
        }
        x.range(0, 0, 2);
        dueInputs("one SIDE has none", x, 1, 0, 0, 1, 0, 2, 0);
        Check.due("it is INFEASIBLE", x.count(3), 1);
        Check.due("it is not covered", x.covered(1, 2), false);
        Check.due("that is COMPLETE all the same", x.complete(), true);
    }

    private static void leastInput() {
        // P > 2, then P even: the other SIDE of the second is asked for behind each of the first.
        PathExplorer x = Check.program(
            i(1, 0), i(0, 2), i(24, 3, 4), i(1, 0), i(0, 1), i(8), i(23, 7, 0), i(0), i(32));
        x.range(0, 0, 15);
        dueInputs("least behind the EVENTS before", x, 1, 0, 0, 3, 0, 1, 0, 4, 0);
        x.range(0, 2, 3);
        dueInputs("only those in the RANGES", x, 1, 2, 0, 3, 0);
        Check.due("INFEASIBLE behind either", x.count(3), 2);
        // A PIN is an EVENT before, too: with another one it is another way.
        PathExplorer pins = Check.program(
            i(1, 0), i(26), i(21), i(1, 1), i(23, 5), i(0), i(32));
        pins.range(0, -1, 3);
        dueInputs("PINS are not turned round", pins, 0, -1, 0, 0, 0, 0, 1);
        Check.due("nothing INFEASIBLE", pins.count(3), 0);
    }

    /** The first and the last input of the widest RANGES are inputs like all others. */
    private static void corners() {
        PathExplorer x = Check.program(
            i(1, 0), i(0, 15), i(24, 5, 0), i(0, 0), i(32), i(1, 1), i(0, 15), i(24, 3, 0), i(0, 1), i(32));
        x.range(0, 0, 15);
        x.range(1, 0, 15);
        dueInputs("the corners", x, 0, 0, 0, 15, 0, 15, 15);
        Check.due("nothing INFEASIBLE", x.count(3), 0);
        x.range(1, 0, 14);
        dueInputs("Q too short", x, 0, 0, 0, 15, 0);
        Check.due("Q's way is INFEASIBLE", x.count(3), 1);
        x.range(1, 15, 15);
        dueInputs("just one Q", x, 0, 0, 15, 15, 15);
        Check.due("its other way is INFEASIBLE", x.count(3), 1);
        x.range(0, 0, 14);
        dueInputs("P too short", x, 0, 0, 15);
        Check.due("P's way is INFEASIBLE", x.count(3), 1);
        PathExplorer sum = Check.program(i(1, 0), i(1, 1), i(3), i(0, 30), i(24, 5, 0), i(0), i(32));
        sum.range(0, 0, 15);
        sum.range(1, 0, 15);
        dueInputs("only the last corner", sum, 1, 0, 0, 15, 15);
        PathExplorer wrapped = Check.program(i(1, 0), i(1, 1), i(24, 3, 0), i(0), i(32));
        wrapped.range(0, Integer.MAX_VALUE - 15, Integer.MAX_VALUE);
        wrapped.range(1, Integer.MIN_VALUE, Integer.MIN_VALUE + 15);
        dueInputs("no RANGE goes round", wrapped, 1, Integer.MAX_VALUE - 15, Integer.MIN_VALUE);
        Check.due("so they never meet", wrapped.count(3), 1);
    }

    private static void infeasible() {
        PathExplorer x = Check.program(i(1, 0), i(23, 2, 2), i(1, 0), i(23, 4, 2), i(0), i(32));
        Check.due("one way", x.explore(0), 1);
        Check.due("two INFEASIBLE", x.count(3), 2);
        x.range(0, -1, 0);
        Check.due("two ways", x.explore(0), 2);
        Check.due("each with one INFEASIBLE", x.count(3), 2);
        x.range(0, -1, -1);
        Check.due("one way", x.explore(1), 1);
        Check.due("two INFEASIBLE", x.count(3), 2);
    }

    /** What is INFEASIBLE is TRIED: the next TEST with the same EVENTS before does not count it again. */
    private static void infeasibleOnce() {
        PathExplorer x = Check.program(
            i(1, 0), i(23, 2, 2), i(1, 0), i(23, 4, 0), i(1, 1), i(23, 6, 0), i(0), i(32));
        for (int way = 0; way < 2; way++) {
            Check.due("four ways behind one", x.explore(way), 4);
            Check.due("INFEASIBLE once", x.count(3), 1);
        }
        PathExplorer choice = Check.program(i(1, 0), i(25, 2, 9), i(0), i(0), i(0), i(1, 1), i(23, 7, 0), i(0), i(32));
        Check.due("two ways behind a SWITCH", choice.explore(0), 2);
        Check.due("three SIDES once each", choice.count(3), 3);
    }

    /** The smallest RANGES: there is one TEST, and every other SIDE is INFEASIBLE. */
    private static void oneInput() {
        PathExplorer x = Check.program(
            i(1, 0), i(23, 2, 0), i(1, 0), i(25, 4, 0), i(0), i(0), i(0), i(1, 1), i(1, 0), i(6), i(32));
        x.range(0, 3, 3);
        x.range(1, 3, 3);
        for (int way = 0; way < 2; way++) {
            dueInputs("one input", x, way, 3, 3);
            Check.due("1, 3 and 1 SIDES", x.count(3), 5);
            Check.due("one WORK", x.count(6), 1);
            Check.due("COMPLETE", x.complete(), true);
        }
    }

    /** 32 ways if Q is not 0; else P is compared with 0, 1, .. until it is that: one more than there are. */
    private static PathExplorer manyWays(int comparisons) {
        PathExplorer x = new PathExplorer();
        x.method(0, 0, 2);
        x.range(0, 0, 15);
        Check.emit(x, i(1, 1), i(23, 24, 0));
        for (int bit = 0; bit < 4; bit++) {
            Check.emit(x, i(1, 0), i(0, 1 << bit), i(8), i(23, 4 * bit + 6, 1));
        }
        Check.emit(x, i(1, 1), i(0, 2), i(8), i(23, 22, 1), i(0), i(32));
        Check.emit(x, i(1, 0), i(1, 2), i(24, 22, 0), i(34, 2, 1), i(1, 2), i(0, comparisons), i(24, 24, 2), i(0), i(32));
        return x;
    }

    /** "while there is WORK and fewer than 40 TESTS" "if no WORK was left" */
    private static void fortyTests() {
        int[][] rows = {{5, 38}, {6, 39}, {7, 40}, {8, 40}, {9, 40}};
        for (int[] row : rows) {
            for (int way = 0; way < 2; way++) {
                PathExplorer x = manyWays(row[0]);
                String name = (33 + row[0]) + " ways, explore(" + way + ")";
                Check.due(name, x.explore(way), row[1]);
                Check.due(name + ": count(2)", x.count(2), row[1]);
                Check.due(name + ": COMPLETE", x.complete(), row[0] <= 7);
                Check.due(name + ": nothing INFEASIBLE", x.count(3), 0);
                Check.due(name + ": the last TEST", x.test(row[1] - 1, 2), PathExplorer.RETURNED);
                Check.due(name + ": its EVENT", x.event(row[1] - 1, 0, 0), 1);
                Check.due(name + ": one more TEST", x.test(row[1], 2), PathExplorer.NONE);
                Check.due(name + ": its EVENT", x.event(row[1], 0, 0), PathExplorer.NONE);
                Check.due(name + ": no TEST 40", x.test(40, 0), PathExplorer.NONE);
            }
        }
    }

    /** The 40th TEST's DECISIONS, too, are turned round. */
    private static void lastOfFortyTests() {
        // 64 ways, each with a last DECISION of its own whose other SIDE is INFEASIBLE.
        PathExplorer x = new PathExplorer();
        x.method(0, 0, 2);
        for (int bit = 0; bit < 6; bit++) {
            Check.emit(x, i(1, bit / 4), i(0, 1 << bit % 4), i(8), i(23, 4 * bit + 4, 1));
        }
        Check.emit(x, i(1, 0), i(23, 26, 2), i(0), i(32));
        x.range(0, 0, 15);
        for (int way = 0; way < 2; way++) {
            Check.due("40 of 64", x.explore(way), 40);
            Check.due("each has one that is INFEASIBLE", x.count(3), 40);
        }
    }

    /** P and Q as one number, compared with 0, 1, ..: each TEST has one new way behind it. */
    private static void chain() {
        PathExplorer x = Check.program(
            i(1, 0), i(0, 16), i(5), i(1, 1), i(3), i(2, 0),
            i(1, 0), i(1, 2), i(24, 13, 0), i(34, 2, 1), i(1, 2), i(0, 19), i(24, 6, 2), i(0), i(32));
        x.range(0, 0, 15);
        x.range(1, 0, 15);
        for (int way = 0; way < 2; way++) {
            Check.due("a chain of 19 DECISIONS", x.explore(way), 20);
            Check.due("it is not CUT", x.complete(), true);
            Check.due("the last is the least by P, then by Q", x.test(19, 0) * 100 + x.test(19, 1), 103);
            Check.due("one WORK at a time", x.count(6), 1);
        }
    }

    private static void manyTimesForty() {
        PathExplorer x = bits(6);
        Check.due("40 of 64", x.explore(0), 40);
        Check.due("WORK is left", x.complete(), false);
        Check.due("TEST 39", x.test(39, 4), 6);
        Check.due("no TEST 40", x.test(40, 0), PathExplorer.NONE);
        Check.due("40 of 64, oldest first", x.explore(1), 40);
        Check.due("WORK is left", x.complete(), false);
        Check.due("most WORK, oldest first", x.count(6), 23);
        Check.due("the same again", x.explore(1), 40);
        Check.due("with as much WORK", x.count(6), 23);
        Check.due("32 of 32", bits(5).explore(0), 32);
    }

    /** 40 TESTS with 20 EVENTS each: eight bits of the input, and twelve times that P is not below 0. */
    private static void fullTable() {
        for (int way = 0; way < 2; way++) {
            Subject x = new Subject();
            x.change(o -> o.method(0, 0, 2));
            for (int n = 0; n < 32; n++) {
                int bit = n / 4;
                int[][] rows = {i(1, bit / 4, 0), i(0, 1 << bit % 4, 0), i(8, 0, 0), i(23, n + 1, 1)};
                int[] row = rows[n % 4];
                x.change(o -> o.emit(row[0], row[1], row[2]));
            }
            x.change(o -> o.emit(1, 0, 0));
            x.change(o -> o.emit(23, 32, 3));
            x.change(o -> o.range(0, 0, 15));
            x.change(o -> o.range(1, 0, 15));
            int given = way;
            Check.due("40 of 256", x.change(o -> o.explore(given)), 40);
            Check.due("twelve INFEASIBLE for each", x.ask(o -> o.count(3)), 480);
            for (int test = 0; test < 40; test++) {
                int k = test;
                long bits = x.ask(o -> o.test(k, 0)) + 16 * x.ask(o -> o.test(k, 1));
                for (int event = 0; event < 20; event++) {
                    int n = event;
                    String name = "event(" + k + ", " + n + ", ";
                    Check.due(name + "0)", x.ask(o -> o.event(k, n, 0)), n < 8 ? 4 * n + 3 : 33);
                    Check.due(name + "1)", x.ask(o -> o.event(k, n, 1)), n < 8 ? bits >> n & 1 : 1);
                    Check.due(name + "2)", x.ask(o -> o.event(k, n, 2)), 0);
                }
                Check.due("event(" + k + ", 20, 0)", x.ask(o -> o.event(k, 20, 0)), PathExplorer.NONE);
            }
        }
    }

    private static void completeness() {
        PathExplorer broken = Check.program(i(1, 0), i(23, 1, 4), i(0), i(32));
        broken.explore(0);
        Check.due("BROKEN TESTS may be COMPLETE", broken.complete(), true);
        PathExplorer loop = Check.program(i(1, 0), i(23, 4, 0), i(0), i(32), i(22, 4));
        loop.explore(0);
        Check.due("TIRED is not COMPLETE", loop.complete(), false);
        loop.range(0, 1, 3);
        loop.explore(0);
        Check.due("unless no TEST is", loop.complete(), true);
        loop.run(0, 0);
        Check.due("a run call does not count", loop.complete(), true);
        PathExplorer deep = Check.program(i(1, 0), i(23, 4, 4), i(0), i(32), i(33, 1));
        deep.method(1, 4, 0);
        deep.explore(0);
        Check.due("DEEP is not COMPLETE", deep.complete(), false);
        PathExplorer limit = Check.program(i(1, 0), i(23, 4, 4), i(0), i(32), i(0, 9), i(26));
        limit.explore(0);
        Check.due("LIMIT is not COMPLETE", limit.complete(), false);
        PathExplorer thrown = Check.program(i(1, 0), i(23, 4, 4), i(0), i(32), i(31, 5));
        thrown.explore(0);
        Check.due("THROWN may be COMPLETE", thrown.complete(), true);
        PathExplorer pin = Check.program(i(1, 0), i(23, 4, 4), i(0), i(32), i(1, 0), i(26), i(0), i(32));
        pin.explore(0);
        Check.due("a PIN is not COMPLETE", pin.complete(), false);
        pin.range(0, -3, 0);
        pin.explore(0);
        Check.due("unless no TEST has one", pin.complete(), true);
    }

    private static void covered() {
        PathExplorer x = Check.program(i(1, 0), i(26), i(21), i(1, 1), i(23, 5, 4), i(0), i(32));
        x.range(0, 1, 2);
        x.explore(0);
        Check.due("the DECISION", x.covered(1, 0), true);
        Check.due("a PIN with INT 1 is no SIDE 1", x.covered(1, 1), false);
        Check.due("both SIDES of the IF", x.covered(4, 0) && x.covered(4, 1), true);
        Check.due("no SIDE 2", x.covered(4, 2), false);
        Check.due("another instruction", x.covered(3, 0), false);
        int[] wrong = {Integer.MIN_VALUE, -1, 4, 16, 32, Integer.MAX_VALUE};
        for (int side : wrong) {
            Check.due("covered(4, " + side + ")", x.covered(4, side), false);
        }
        int[] none = {Integer.MIN_VALUE, -1, 60, 1 << 27, Integer.MAX_VALUE};
        for (int instruction : none) {
            Check.due("covered(" + instruction + ", 0)", x.covered(instruction, 0), false);
        }
        x.run(-1, 0);
        Check.due("a run call covers nothing", x.covered(1, 1), false);
        PathExplorer ends = new PathExplorer();
        ends.method(0, 1, 2);
        Check.emit(ends, i(23, 57, 1), i(1, 0), i(22, 0));
        for (int n = 3; n < 57; n++) {
            Check.emit(ends, i(32));
        }
        Check.emit(ends, i(0), i(1, 1), i(23, 0, 4));
        ends.explore(0);
        Check.due("instruction 0", ends.covered(0, 0) && ends.covered(0, 1), true);
        Check.due("instruction 59", ends.covered(59, 0) && ends.covered(59, 1), true);
    }

    private static void refusals() {
        PathExplorer x = bits(2);
        x.explore(1);
        int[] wrong = {Integer.MIN_VALUE, -1, 2, Integer.MAX_VALUE};
        for (int way : wrong) {
            Check.due("explore(" + way + ")", x.explore(way), PathExplorer.REFUSED);
        }
        x.clear();
        Check.due("without an ENTRY", x.explore(0), PathExplorer.REFUSED);
        Check.due("the TESTS stay", x.count(2), 4);
        Check.due("TEST 1 stays", x.test(1, 0), 1);
        Check.due("COMPLETE stays", x.complete(), true);
        Check.due("the most WORK stays", x.count(6), 2);
    }

    private static void anew() {
        PathExplorer x = bits(6);
        x.explore(0);
        x.clear();
        Check.emit(x, i(1, 0), i(23, 2, 2), i(0), i(32));
        x.method(0, 0, 2);
        dueInputs("the last explore alone is told of", x, 0, 0, 0);
        for (int k = 1; k < 40; k++) {
            Check.due("no TEST of the one before", x.test(k, 4), PathExplorer.NONE);
            Check.due("no EVENT of the one before", x.event(k, 0, 0), PathExplorer.NONE);
        }
        Check.due("its INFEASIBLE ones", x.count(3), 1);
        Check.due("its WORK", x.count(6), 1);
        Check.due("it is COMPLETE", x.complete(), true);
        for (int instruction = 0; instruction < 26; instruction++) {
            for (int side = 0; side < 4; side++) {
                Check.due("covered(" + instruction + ", " + side + ") by its DECISION alone",
                    x.covered(instruction, side), instruction == 1 && side == 0);
            }
        }
        x.range(0, -1, 0);
        dueInputs("the same PROGRAM is tried anew", x, 0, -1, 0, 0, 0);
        Check.due("nothing INFEASIBLE", x.count(3), 0);
        dueInputs("the same again", x, 0, -1, 0, 0, 0);
    }
}
