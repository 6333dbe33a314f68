import java.util.Arrays;
import java.util.List;

/** Promises 7 to 14 on generated programs: every answer is compared with that of Model. */
public final class ModelTest {
    private static final int PROGRAMS = 5000;
    private static final Generator generator = new Generator();
    private static final int[] outcomes = new int[6];
    private static int cut = 0;
    private static int full = 0;
    private static int all = 0;
    private static int whole = 0;
    private static int pinned = 0;

    public static void main(String[] args) {
        Subject x = new Subject();
        for (int n = 0; n < PROGRAMS; n++) {
            if (n % 2 == 0) {
                x = new Subject();
            }
            compare(n, x);
        }
        for (int outcome = 0; outcome < 6; outcome++) {
            Check.due("outcome " + outcome + " was met", outcomes[outcome] > 50, true);
        }
        Check.due("CUT RUNS were met", cut > 50, true);
        Check.due("40 TESTS were met", full > 10, true);
        Check.due("COMPLETE explores were met", whole > 50, true);
        Check.due("PINS were met", pinned > 50, true);
        System.out.println("  " + all + " tests, outcomes " + Arrays.toString(outcomes) + ", " + cut + " cut, " + full
            + " with 40 tests, " + whole + " complete, " + pinned + " pins");
        Check.end();
    }

    private static int below(int bound) {
        return generator.below(bound);
    }

    private static void compare(int n, Subject x) {
        Model model = new Model();
        x.change(PathExplorer::clear);
        boolean wild = n % 4 == 0;
        write(x, model, wild ? generator.wild() : generator.tame(), wild);
        for (int way = 0; way < 2; way++) {
            String name = "program " + n + ", explore(" + way + ")";
            compareRun("program " + n, x, model, below(40) - 10, below(12) - 3);
            int given = way;
            Check.due(name, x.change(o -> o.explore(given)), model.explore(way));
            compareExplored(name, x, model);
        }
    }

    private static void compareRun(String name, Subject x, Model model, int p, int q) {
        Model.Run run = model.run(p, q);
        String call = name + ", run(" + p + ", " + q + ")";
        Check.due(call, x.change(o -> o.run(p, q)), run.outcome);
        Check.due(call + ": value", x.ask(PathExplorer::value), run.value);
        Check.due(call + ": events", x.ask(o -> o.count(4)), run.events.size());
        Check.due(call + ": steps", x.ask(o -> o.count(5)), run.steps);
    }

    private static void compareExplored(String name, Subject x, Model model) {
        Check.due(name + ": count(2)", x.ask(o -> o.count(2)), model.tests.size());
        Check.due(name + ": count(3)", x.ask(o -> o.count(3)), model.infeasible);
        Check.due(name + ": count(6)", x.ask(o -> o.count(6)), model.mostWork);
        Check.due(name + ": complete()", x.ask(o -> o.complete() ? 1 : 0), model.complete ? 1 : 0);
        all += model.tests.size();
        full += model.tests.size() == 40 ? 1 : 0;
        whole += model.complete ? 1 : 0;
        for (int k = 0; k < model.tests.size(); k++) {
            Model.Run test = model.tests.get(k);
            outcomes[test.outcome]++;
            cut += test.cut ? 1 : 0;
            compareTest(name, x, k, test, model.testInputs.get(k));
        }
        for (int tries = 0; tries < 8; tries++) {
            int instruction = below(model.code.size());
            int side = below(4);
            Check.due(name + ": covered(" + instruction + ", " + side + ")",
                x.ask(o -> o.covered(instruction, side) ? 1 : 0), model.covered(instruction, side) ? 1 : 0);
        }
    }

    private static void compareTest(String name, Subject x, int k, Model.Run test, int[] input) {
        long[] facts = {input[0], input[1], test.outcome, test.value, test.events.size(), test.steps};
        for (int what = 0; what < facts.length; what++) {
            int fact = what;
            Check.due(name + ": test(" + k + ", " + what + ")", x.ask(o -> o.test(k, fact)), facts[what]);
        }
        for (int i = 0; i < test.events.size(); i++) {
            int n = i;
            Model.Event event = test.events.get(i);
            pinned += event.pin() ? 1 : 0;
            String call = name + ": event(" + k + ", " + i + ", ";
            Check.due(call + "0)", x.ask(o -> o.event(k, n, 0)), event.instruction());
            Check.due(call + "1)", x.ask(o -> o.event(k, n, 1)), event.number());
            Check.due(call + "2)", x.ask(o -> o.event(k, n, 2)), event.pin() ? 1 : 0);
        }
    }

    private static void write(Subject x, Model model, List<int[]> code, boolean wild) {
        for (int[] row : code) {
            Check.due("emit " + row[0], x.change(o -> o.emit(row[0], row[1], row[2])), model.code.size());
            model.code.add(row);
        }
        int length = code.size();
        for (int m = 0; m < 4; m++) {
            if (m == 0 || below(4) > 0) {
                int start = m == 0 && below(8) > 0 ? 0 : wild ? below(length) : generator.start();
                int arguments = m == 0 ? 2 : m == 1 ? 1 : below(3);
                int number = m;
                Check.due("method", x.change(o -> o.method(number, start, arguments)), 0);
                model.methods.put(m, new int[] {start, arguments});
            }
        }
        for (int h = below(4); h > 0; h--) {
            int place = wild ? below(length + 1) : generator.start();
            int[] row = {below(length), below(length + 1), place, below(3) > 0 ? 0 : below(10)};
            Check.due("handler", x.change(o -> o.handler(row[0], row[1], row[2], row[3])), model.handlers.size());
            model.handlers.add(row);
        }
        for (int r = 0; r < 2; r++) {
            int lo = below(12) == 0 ? Integer.MAX_VALUE - 15 : below(8) - 6;
            int hi = lo + (below(3) > 0 ? 15 - below(4) : below(6));
            int number = r;
            Check.due("range", x.change(o -> o.range(number, lo, hi)), 0);
            model.ranges[r][0] = lo;
            model.ranges[r][1] = hi;
        }
    }
}
