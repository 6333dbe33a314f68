import java.util.ArrayDeque;
import java.util.ArrayList;
import java.util.Collections;
import java.util.Deque;
import java.util.HashMap;
import java.util.HashSet;
import java.util.List;
import java.util.Map;
import java.util.Set;

/**
 * The document once more, written as literally as the Java library allows and without a
 * thought for speed, so that generated programs can be compared. It takes only calls that
 * are not refused: refusals are tested by themselves.
 */
final class Model {
    record Value(Integer number, int[] cells, boolean[] cellBound, boolean bound) {
        static Value of(int number, boolean bound) {
            return new Value(number, null, null, bound);
        }

        boolean isInt() {
            return number != null;
        }
    }

    record Event(int instruction, int number, boolean pin) {
    }

    static final class Run {
        final List<Event> events = new ArrayList<>();
        boolean cut = false;
        int outcome = -1;
        long value = PathExplorer.NONE;
        int steps = 0;

        void record(int instruction, int number, boolean pin) {
            if (events.size() == 20) {
                cut = true;
            } else {
                events.add(new Event(instruction, number, pin));
            }
        }

        void end(int how, long what) {
            outcome = how;
            value = what;
        }
    }

    private static final class Frame {
        final Value[] locals = new Value[4];
        List<Value> stack = new ArrayList<>();
        int at;
    }

    private static final class BrokenRun extends RuntimeException {
    }

    final List<int[]> code = new ArrayList<>();
    final Map<Integer, int[]> methods = new HashMap<>();
    final List<int[]> handlers = new ArrayList<>();
    final int[][] ranges = {{0, 3}, {0, 3}};
    List<Run> tests = new ArrayList<>();
    List<int[]> testInputs = new ArrayList<>();
    int infeasible = 0;
    int mostWork = 0;
    boolean complete = false;
    private Deque<Frame> frames;
    private Run run;
    private int arrays;
    private final Map<List<Integer>, List<Event>> known = new HashMap<>();

    Run run(int p, int q) {
        run = new Run();
        frames = new ArrayDeque<>();
        arrays = 0;
        enter(0, List.of(Value.of(p, true), Value.of(q, true)));
        while (run.outcome < 0) {
            if (run.steps == 150) {
                run.end(PathExplorer.TIRED, PathExplorer.NONE);
                break;
            }
            run.steps++;
            try {
                step();
            } catch (BrokenRun broken) {
                run.end(PathExplorer.BROKEN, PathExplorer.NONE);
            }
        }
        return run;
    }

    private void enter(int m, List<Value> arguments) {
        Frame frame = new Frame();
        for (int i = 0; i < 4; i++) {
            frame.locals[i] = i < arguments.size() ? arguments.get(i) : Value.of(0, false);
        }
        frame.at = methods.get(m)[0];
        frames.push(frame);
    }

    private Value take() {
        List<Value> stack = frames.peek().stack;
        if (stack.isEmpty()) {
            throw new BrokenRun();
        }
        return stack.remove(stack.size() - 1);
    }

    private Value takeInt() {
        Value value = take();
        if (!value.isInt()) {
            throw new BrokenRun();
        }
        return value;
    }

    private Value takeReference() {
        Value value = take();
        if (value.isInt()) {
            throw new BrokenRun();
        }
        return value;
    }

    private void put(Value value) {
        List<Value> stack = frames.peek().stack;
        if (stack.size() == 8) {
            throw new BrokenRun();
        }
        stack.add(value);
    }

    private void raise(int e) {
        while (!frames.isEmpty()) {
            Frame frame = frames.peek();
            for (int[] h : handlers) {
                if (h[0] <= frame.at && frame.at < h[1] && (h[3] == 0 || h[3] == e)) {
                    frame.stack = new ArrayList<>(List.of(Value.of(e, false)));
                    frame.at = h[2];
                    return;
                }
            }
            frames.pop();
        }
        run.end(PathExplorer.THROWN, e);
    }

    private void step() {
        Frame frame = frames.peek();
        int at = frame.at;
        if (at >= code.size()) {
            throw new BrokenRun();
        }
        int operation = code.get(at)[0];
        int a = code.get(at)[1];
        int b = code.get(at)[2];
        if (operation >= 3 && operation <= 13) {
            binary(frame, operation);
        } else if (operation >= 14 && operation <= 17) {
            Value x = takeInt();
            int n = x.number();
            put(Value.of(operation == 14 ? -n : operation == 15 ? (byte) n : operation == 16 ? (char) n : (short) n,
                x.bound()));
            frame.at++;
        } else if (operation >= 22 && operation <= 25) {
            jump(frame, operation, a, b);
        } else if (operation >= 26 && operation <= 29) {
            array(frame, operation);
        } else {
            other(frame, operation, a, b);
        }
    }

    private void binary(Frame frame, int operation) {
        Value second = takeInt();
        Value first = takeInt();
        int x = first.number();
        int y = second.number();
        if (operation == 6 || operation == 7) {
            if (second.bound()) {
                run.record(frame.at, y == 0 ? 1 : 0, false);
            }
            if (y == 0) {
                raise(1);
                return;
            }
        }
        int result = switch (operation) {
            case 3 -> x + y;
            case 4 -> x - y;
            case 5 -> x * y;
            case 6 -> x / y;
            case 7 -> x % y;
            case 8 -> x & y;
            case 9 -> x | y;
            case 10 -> x ^ y;
            case 11 -> x << (y & 31);
            case 12 -> x >> (y & 31);
            default -> x >>> (y & 31);
        };
        put(Value.of(result, first.bound() || second.bound()));
        frame.at++;
    }

    private static boolean holds(int comparison, int x, int y) {
        return switch (comparison) {
            case 0 -> x == y;
            case 1 -> x != y;
            case 2 -> x < y;
            case 3 -> x >= y;
            case 4 -> x > y;
            default -> x <= y;
        };
    }

    private void jump(Frame frame, int operation, int a, int b) {
        if (operation == 22) {
            frame.at = a;
            return;
        }
        Value second = operation == 24 ? takeInt() : Value.of(0, false);
        Value first = takeInt();
        int side;
        if (operation == 25) {
            int offset = first.number() - b;
            side = offset >= 0 && offset <= 2 ? offset : 3;
        } else {
            side = holds(b, first.number(), second.number()) ? 1 : 0;
        }
        if (first.bound() || second.bound()) {
            run.record(frame.at, side, false);
        }
        frame.at = operation == 25 ? a + side : side == 1 ? a : frame.at + 1;
    }

    private void array(Frame frame, int operation) {
        if (operation == 26) {
            Value x = takeInt();
            int size = x.number();
            if (x.bound()) {
                run.record(frame.at, size < 0 ? 1 : 0, false);
            }
            if (size < 0) {
                raise(3);
            } else if (arrays == 8 || size > 8) {
                run.end(PathExplorer.LIMIT, PathExplorer.NONE);
            } else {
                if (x.bound()) {
                    run.record(frame.at, size, true);
                }
                arrays++;
                put(new Value(null, new int[size], new boolean[size], false));
                frame.at++;
            }
            return;
        }
        Value z = operation == 28 ? takeInt() : null;
        Value y = operation == 29 ? null : takeInt();
        Value x = takeReference();
        if (x.cells() == null) {
            raise(4);
        } else if (operation == 29) {
            put(Value.of(x.cells().length, false));
            frame.at++;
        } else {
            cell(frame, x, y, z);
        }
    }

    private void cell(Frame frame, Value x, Value y, Value z) {
        int i = y.number();
        boolean inside = i >= 0 && i < x.cells().length;
        if (y.bound()) {
            run.record(frame.at, inside ? 0 : 1, false);
        }
        if (!inside) {
            raise(2);
            return;
        }
        if (y.bound()) {
            run.record(frame.at, i, true);
        }
        if (z == null) {
            put(Value.of(x.cells()[i], x.cellBound()[i]));
        } else {
            x.cells()[i] = z.number();
            x.cellBound()[i] = z.bound();
        }
        frame.at++;
    }

    private void other(Frame frame, int operation, int a, int b) {
        switch (operation) {
            case 0 -> put(Value.of(a, false));
            case 1 -> put(frame.locals[a]);
            case 2 -> frame.locals[a] = take();
            case 18 -> {
                Value x = take();
                put(x);
                put(x);
            }
            case 19 -> {
                Value y = take();
                Value x = take();
                put(y);
                put(x);
                put(y);
            }
            case 20 -> {
                Value y = take();
                Value x = take();
                put(y);
                put(x);
            }
            case 21 -> take();
            case 30 -> put(new Value(null, null, null, false));
            case 31 -> {
                raise(a);
                return;
            }
            case 32 -> {
                Value x = takeInt();
                frames.pop();
                if (frames.isEmpty()) {
                    run.end(PathExplorer.RETURNED, x.number());
                } else {
                    put(x);
                    frames.peek().at++;
                }
                return;
            }
            case 33 -> {
                call(a);
                return;
            }
            default -> {
                if (!frame.locals[a].isInt()) {
                    throw new BrokenRun();
                }
                frame.locals[a] = Value.of(frame.locals[a].number() + b, frame.locals[a].bound());
            }
        }
        frame.at++;
    }

    private void call(int m) {
        if (!methods.containsKey(m)) {
            throw new BrokenRun();
        }
        List<Value> arguments = new ArrayList<>();
        for (int i = 0; i < methods.get(m)[1]; i++) {
            arguments.add(take());
        }
        Collections.reverse(arguments);
        if (frames.size() == 4) {
            run.end(PathExplorer.DEEP, PathExplorer.NONE);
        } else {
            enter(m, arguments);
        }
    }

    int explore(int way) {
        tests = new ArrayList<>();
        testInputs = new ArrayList<>();
        known.clear();
        infeasible = 0;
        Set<List<Object>> tried = new HashSet<>();
        Deque<int[]> work = new ArrayDeque<>();
        work.addLast(new int[] {ranges[0][0], ranges[1][0]});
        mostWork = 1;
        boolean whole = true;
        while (!work.isEmpty() && tests.size() < 40) {
            int[] input = way == 0 ? work.removeLast() : work.removeFirst();
            Run test = run(input[0], input[1]);
            tests.add(test);
            testInputs.add(input);
            whole = whole && !test.cut && test.outcome != PathExplorer.TIRED && test.outcome != PathExplorer.DEEP
                && test.outcome != PathExplorer.LIMIT && test.events.stream().noneMatch(Event::pin);
            for (int i = 0; i < test.events.size(); i++) {
                if (!test.events.get(i).pin()) {
                    tried.add(List.of(test.events.subList(0, i), test.events.get(i).number()));
                }
            }
            for (int i = 0; i < test.events.size(); i++) {
                if (!test.events.get(i).pin()) {
                    turnRound(test.events.subList(0, i), test.events.get(i), tried, work);
                }
            }
        }
        complete = whole && work.isEmpty();
        return tests.size();
    }

    private void turnRound(List<Event> before, Event decision, Set<List<Object>> tried, Deque<int[]> work) {
        int sides = code.get(decision.instruction())[0] == 25 ? 4 : 2;
        for (int side = 0; side < sides; side++) {
            if (side != decision.number() && tried.add(List.of(before, side))) {
                int[] input = least(before, side);
                if (input == null) {
                    infeasible++;
                } else {
                    work.addLast(input);
                    mostWork = Math.max(mostWork, work.size());
                }
            }
        }
    }

    private int[] least(List<Event> before, int side) {
        int n = before.size();
        for (long p = ranges[0][0]; p <= ranges[0][1]; p++) {
            for (long q = ranges[1][0]; q <= ranges[1][1]; q++) {
                int pp = (int) p;
                int qq = (int) q;
                List<Event> events = known.computeIfAbsent(List.of(pp, qq), input -> run(pp, qq).events);
                if (events.size() > n && events.subList(0, n).equals(before)
                    && !events.get(n).pin() && events.get(n).number() == side) {
                    return new int[] {(int) p, (int) q};
                }
            }
        }
        return null;
    }

    boolean covered(int instruction, int side) {
        return tests.stream().anyMatch(t -> t.events.contains(new Event(instruction, side, false)));
    }
}
