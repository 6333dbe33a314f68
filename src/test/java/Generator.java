import java.util.ArrayList;
import java.util.List;

/**
 * Programs for ModelTest, from a counter that is scrambled: the same ones every time.
 * Wild ones are rows of operations; tame ones are made of whole statements, so that few
 * of them are BROKEN early.
 */
final class Generator {
    private static final int[] NEEDS = {
        0, 0, 1, 2, 2, 2, 2, 2, 2, 2, 2, 2, 2, 2, 1, 1, 1, 1,
        1, 2, 2, 1, 0, 1, 2, 1, 1, 2, 3, 1, 0, 0, 1, 0, 0,
    };
    private static final int[] GROWS = {
        1, 1, -1, -1, -1, -1, -1, -1, -1, -1, -1, -1, -1, -1, 0, 0, 0, 0,
        1, 1, 0, -1, 0, -1, -2, -1, 0, -1, -3, 0, 1, 0, -1, 0, 0,
    };
    private static final int LONGEST = 60;
    private static final int ARRAY_LOCAL = 3;

    private long state = 1;
    private List<int[]> code;
    private List<Integer> starts;
    private boolean withArrays;
    private boolean branchy;

    int below(int bound) {
        state = state * 6364136223846793005L + 1442695040888963407L;
        return (int) ((state >>> 33) % bound);
    }

    List<int[]> wild() {
        code = new ArrayList<>();
        int length = 4 + below(40);
        int height = 0;
        for (int i = 0; i < length; i++) {
            int operation = wildOperation(height);
            code.add(wildRow(operation, length));
            height = Math.max(0, height + GROWS[operation]);
        }
        return code;
    }

    private int wildOperation(int height) {
        int operation = 0;
        for (int tries = 0; tries < 50; tries++) {
            int kind = below(10);
            operation = kind < 3 ? (below(4) == 0 ? 0 : 1) : kind < 6 ? 23 + below(7) : below(35);
            boolean bears = height >= NEEDS[operation] && height + GROWS[operation] <= 8;
            if (bears || below(50) == 0) {
                return operation;
            }
        }
        return operation;
    }

    private int[] wildRow(int operation, int length) {
        int a = below(7) == 0 ? below(2000000) - 1000000 : below(6) - 1;
        int b = below(5) - 2;
        if (operation == 1 || operation == 2 || operation == 33 || operation == 34) {
            a = operation == 1 ? below(3) : below(4);
        } else if (operation >= 22 && operation <= 25) {
            a = below(length);
            b = operation == 25 ? b : below(6);
        } else if (operation == 31) {
            a = 5 + below(5);
        }
        return new int[] {operation, a, b};
    }

    List<int[]> tame() {
        code = new ArrayList<>();
        starts = new ArrayList<>();
        int length = 15 + below(40);
        branchy = below(2) == 0;
        withArrays = below(3) == 0;
        if (withArrays) {
            newArray();
        }
        while (code.size() < Math.min(length, LONGEST - 2)) {
            starts.add(code.size());
            statement();
        }
        starts.add(Math.min(code.size(), LONGEST - 1));
        row(1, below(3), 0);
        row(32, 0, 0);
        for (int i = 0; i < code.size(); i++) {
            if (code.get(i)[0] >= 22 && code.get(i)[0] <= 24) {
                code.get(i)[1] = target(i);
            }
        }
        return code;
    }

    /** The start of a statement, mostly of one further on, so that most RUNS end. */
    private int target(int from) {
        if (below(8) == 0) {
            return start();
        }
        int chosen = starts.get(starts.size() - 1);
        for (int i = starts.size() - 1; i >= 0 && starts.get(i) > from; i--) {
            if (branchy || below(3) == 0) {
                chosen = starts.get(i);
            }
        }
        return chosen;
    }

    /** Where a statement of the last tame program begins. */
    int start() {
        return starts.get(below(starts.size()));
    }

    private void row(int operation, int a, int b) {
        if (code.size() < LONGEST) {
            code.add(new int[] {operation, a, b});
        }
    }

    private void statement() {
        switch (branchy ? 4 + below(10) : below(withArrays ? 20 : 16)) {
            case 0, 1, 2, 3 -> {
                expression(2);
                row(23, 0, below(6));
            }
            case 4, 5, 6, 7 -> {
                row(1, below(2), 0);
                row(0, 1 << below(4), 0);
                row(branchy ? 8 : 3 + below(11), 0, 0);
                row(23, 0, below(6));
            }
            case 8, 9 -> {
                expression(1);
                row(25, Math.min(code.size() + 1, LONGEST - 1), below(4) - 1);
                for (int side = 0; side < 4; side++) {
                    row(22, 0, 0);
                }
            }
            case 10, 11, 12 -> {
                expression(3);
                row(2, below(3), 0);
            }
            case 13 -> row(34, below(3), below(5) - 2);
            case 14 -> call();
            case 15 -> leave();
            case 16 -> newArray();
            default -> {
                row(1, ARRAY_LOCAL, 0);
                expression(1);
                expression(2);
                row(28, 0, 0);
            }
        }
    }

    private void call() {
        expression(1);
        row(33, 1, 0);
        row(2, below(3), 0);
    }

    private void leave() {
        if (below(2) == 0) {
            row(31, 5 + below(5), 0);
        } else {
            expression(2);
            row(32, 0, 0);
        }
    }

    private void newArray() {
        if (below(6) == 0) {
            row(30, 0, 0);
        } else {
            expression(1);
            row(26, 0, 0);
        }
        row(2, ARRAY_LOCAL, 0);
    }

    private void expression(int depth) {
        int kind = depth == 0 ? below(4) : below(9);
        if (kind < 3 || kind == 4 && !withArrays) {
            row(1, below(3), 0);
        } else if (kind == 3) {
            row(0, below(7) - 2, 0);
        } else if (kind == 4) {
            row(1, ARRAY_LOCAL, 0);
            if (below(4) == 0) {
                row(29, 0, 0);
            } else {
                expression(depth - 1);
                row(27, 0, 0);
            }
        } else if (kind == 5) {
            expression(depth - 1);
            row(14 + below(4), 0, 0);
        } else {
            expression(depth - 1);
            expression(depth - 1);
            row(3 + below(11), 0, 0);
        }
    }
}
