/**
 * A test generator: it runs small programs of a stack machine on inputs, records
 * the ways that depend on the inputs, and turns each round to find an input for
 * the other way. DOC.md, whose words in capitals are used here, says what it must do.
 */
public final class PathExplorer {
    public static final int REFUSED = -1;
    public static final int FULL = -2;
    public static final long NONE = 1000000000000L;
    public static final int RETURNED = 0;
    public static final int THROWN = 1;
    public static final int TIRED = 2;
    public static final int BROKEN = 3;
    public static final int DEEP = 4;
    public static final int LIMIT = 5;

    private final Program program;
    private final Machine machine;
    private final Inputs inputs;
    private final Tests tests;
    private final Search search;
    // The last run call's answers are kept apart, because exploring uses the same machine.
    private long lastValue;
    private int lastEvents;
    private int lastSteps;

    public PathExplorer() {
        program = new Program();
        machine = new Machine(program);
        inputs = new Inputs();
        tests = new Tests();
        search = new Search(program, machine, inputs, tests);
        lastValue = NONE;
        lastEvents = 0;
        lastSteps = 0;
    }

    public int emit(int operation, int a, int b) {
        if (!Program.operandsFit(operation, a, b)) {
            return REFUSED;
        }
        return program.addInstruction(operation, a, b);
    }

    public int method(int m, int start, int arguments) {
        boolean fits = within(m, 0, Program.METHODS - 1)
            && within(start, 0, Program.INSTRUCTIONS - 1)
            && within(arguments, m == 0 ? 2 : 0, 2);
        if (!fits) {
            return REFUSED;
        }
        program.defineMethod(m, start, arguments);
        return 0;
    }

    public int handler(int from, int to, int place, int kind) {
        boolean fits = within(from, 0, Program.INSTRUCTIONS)
            && within(to, 0, Program.INSTRUCTIONS)
            && within(place, 0, Program.INSTRUCTIONS)
            && within(kind, 0, 9);
        if (!fits) {
            return REFUSED;
        }
        return program.addHandler(from, to, place, kind);
    }

    public int range(int i, int lo, int hi) {
        // As long: the width of the widest pair of ints is no int.
        long width = (long) hi - (long) lo + 1L;
        if (!within(i, 0, 1) || width < 1L || width > Inputs.WIDEST) {
            return REFUSED;
        }
        inputs.setRange(i, lo, (int) width);
        return 0;
    }

    public int clear() {
        return program.wipe();
    }

    public int run(int p, int q) {
        if (!program.isDefined(0)) {
            return REFUSED;
        }
        machine.perform(p, q);
        lastValue = machine.answer();
        lastEvents = machine.journal.size;
        lastSteps = machine.steps;
        return machine.outcome;
    }

    public long value() {
        return lastValue;
    }

    public int explore(int way) {
        if (!within(way, 0, 1) || !program.isDefined(0)) {
            return REFUSED;
        }
        search.growTree();
        search.tryAllWays(way);
        return tests.size;
    }

    public long test(int k, int what) {
        return tests.fact(k, what);
    }

    public long event(int k, int i, int what) {
        if (!tests.hasEvent(k, i)) {
            return NONE;
        }
        int event = tests.eventAt(k, i);
        switch (what) {
            case 0:
                return Journal.instructionOf(event);
            case 1:
                return Journal.numberOf(event);
            case 2:
                return Journal.isPin(event) ? 1 : 0;
            default:
                return NONE;
        }
    }

    public boolean covered(int instruction, int side) {
        return within(instruction, 0, Program.INSTRUCTIONS - 1)
            && within(side, 0, Program.SWITCH_SIDES - 1)
            && tests.hold(Journal.decision(instruction, side));
    }

    public boolean complete() {
        return search.wasComplete;
    }

    public int count(int what) {
        switch (what) {
            case 0:
                return program.size;
            case 1:
                return program.handlers;
            case 2:
                return tests.size;
            case 3:
                return search.infeasible;
            case 4:
                return lastEvents;
            case 5:
                return lastSteps;
            case 6:
                return search.work.most;
            default:
                return REFUSED;
        }
    }

    private static boolean within(int number, int least, int most) {
        return number >= least && number <= most;
    }

    /** The PROGRAM: instructions, METHODS and HANDLERS. */
    private static final class Program {
        static final int INSTRUCTIONS = 60;
        static final int METHODS = 4;
        static final int HANDLERS = 6;
        static final int SWITCH_SIDES = 4;
        static final int PUSH = 0;
        static final int LOAD = 1;
        static final int STORE = 2;
        static final int ADD = 3;
        static final int SUB = 4;
        static final int MUL = 5;
        static final int DIV = 6;
        static final int REM = 7;
        static final int AND = 8;
        static final int OR = 9;
        static final int XOR = 10;
        static final int SHL = 11;
        static final int SHR = 12;
        static final int USHR = 13;
        static final int NEG = 14;
        static final int BYTE = 15;
        static final int CHAR = 16;
        static final int SHORT = 17;
        static final int DUP = 18;
        static final int DUP_X1 = 19;
        static final int SWAP = 20;
        static final int POP = 21;
        static final int GOTO = 22;
        static final int IF = 23;
        static final int IFCMP = 24;
        static final int SWITCH = 25;
        static final int NEW = 26;
        static final int ALOAD = 27;
        static final int ASTORE = 28;
        static final int LENGTH = 29;
        static final int NULL = 30;
        static final int THROW = 31;
        static final int RETURN = 32;
        static final int CALL = 33;
        static final int ADD_TO_LOCAL = 34;
        private static final int UNDEFINED = -1;

        final int[] operation = new int[INSTRUCTIONS];
        final int[] a = new int[INSTRUCTIONS];
        final int[] b = new int[INSTRUCTIONS];
        int size = 0;
        final int[] start = {UNDEFINED, UNDEFINED, UNDEFINED, UNDEFINED};
        final int[] arguments = new int[METHODS];
        private final int[] from = new int[HANDLERS];
        private final int[] to = new int[HANDLERS];
        private final int[] place = new int[HANDLERS];
        private final int[] kind = new int[HANDLERS];
        int handlers = 0;

        static boolean operandsFit(int operation, int a, int b) {
            switch (operation) {
                case LOAD:
                case STORE:
                case CALL:
                case ADD_TO_LOCAL:
                    return within(a, 0, 3);
                case GOTO:
                case SWITCH:
                    return within(a, 0, INSTRUCTIONS - 1);
                case IF:
                case IFCMP:
                    return within(a, 0, INSTRUCTIONS - 1) && within(b, 0, 5);
                case THROW:
                    return within(a, 5, 9);
                default:
                    return within(operation, PUSH, ADD_TO_LOCAL);
            }
        }

        int addInstruction(int newOperation, int newA, int newB) {
            if (size >= INSTRUCTIONS) {
                return FULL;
            }
            operation[size] = newOperation;
            a[size] = newA;
            b[size] = newB;
            size++;
            return size - 1;
        }

        void defineMethod(int m, int newStart, int newArguments) {
            start[m] = newStart;
            arguments[m] = newArguments;
        }

        int addHandler(int newFrom, int newTo, int newPlace, int newKind) {
            if (handlers >= HANDLERS) {
                return FULL;
            }
            from[handlers] = newFrom;
            to[handlers] = newTo;
            place[handlers] = newPlace;
            kind[handlers] = newKind;
            handlers++;
            return handlers - 1;
        }

        int wipe() {
            int before = size;
            size = 0;
            handlers = 0;
            for (int m = 0; m < METHODS; m++) {
                start[m] = UNDEFINED;
            }
            return before;
        }

        boolean has(int instruction) {
            return instruction >= 0 && instruction < size;
        }

        boolean isDefined(int m) {
            return start[m] != UNDEFINED;
        }

        /** The place of the first HANDLER for what is raised at the instruction, or -1. */
        int handlerPlace(int instruction, int raised) {
            for (int h = 0; h < handlers; h++) {
                boolean guards = from[h] <= instruction && instruction < to[h];
                if (guards && (kind[h] == 0 || kind[h] == raised)) {
                    return place[h];
                }
            }
            return -1;
        }

        int sidesAt(int instruction) {
            return has(instruction) && operation[instruction] == SWITCH ? SWITCH_SIDES : 2;
        }
    }

    /**
     * The FRAMES of a RUN, and the VALUES that the STEP at hand has taken. A VALUE is a
     * number and a sort; the number of a REFERENCE is its array's, or NULL_ARRAY.
     */
    private static final class Frames {
        static final int DEEPEST = 4;
        static final int PLAIN = 0;
        static final int BOUND = 1;
        static final int REFERENCE = 2;
        static final int NULL_ARRAY = -1;
        private static final int LOCALS = 4;
        private static final int HIGHEST = 8;
        private static final int MOST_TAKEN = 3;

        int depth = 0;
        private final int[] place = new int[DEEPEST];
        private final int[] height = new int[DEEPEST];
        private final int[] local = new int[DEEPEST * LOCALS];
        private final int[] localSort = new int[DEEPEST * LOCALS];
        private final int[] stack = new int[DEEPEST * HIGHEST];
        private final int[] stackSort = new int[DEEPEST * HIGHEST];
        final int[] taken = new int[MOST_TAKEN];
        final int[] takenSort = new int[MOST_TAKEN];

        void begin(int entry, int p, int q) {
            depth = 0;
            taken[0] = p;
            takenSort[0] = BOUND;
            taken[1] = q;
            takenSort[1] = BOUND;
            enter(entry, 2);
        }

        /** A new FRAME whose arguments are the VALUES taken last. */
        void enter(int start, int arguments) {
            int base = depth * LOCALS;
            for (int i = 0; i < LOCALS; i++) {
                boolean given = i < arguments;
                local[base + i] = given ? taken[i] : 0;
                localSort[base + i] = given ? takenSort[i] : PLAIN;
            }
            place[depth] = start;
            height[depth] = 0;
            depth++;
        }

        void leave() {
            depth--;
        }

        int standing() {
            return place[depth - 1];
        }

        void standAt(int instruction) {
            place[depth - 1] = instruction;
        }

        boolean holds(int values) {
            return height[depth - 1] >= values;
        }

        /** Whether the stack of the FRAME so far behind the last one can change so. */
        boolean hasRoom(int behind, int takes, int puts) {
            return height[depth - 1 - behind] - takes + puts <= HIGHEST;
        }

        /** The sort of one of the VALUES to be taken, the first of them being the lowest. */
        int sortAt(int takes, int i) {
            return stackSort[lowestOf(takes) + i];
        }

        void take(int takes) {
            int lowest = lowestOf(takes);
            for (int i = 0; i < takes; i++) {
                taken[i] = stack[lowest + i];
                takenSort[i] = stackSort[lowest + i];
            }
            height[depth - 1] -= takes;
        }

        void push(int number, int sort) {
            int free = (depth - 1) * HIGHEST + height[depth - 1];
            stack[free] = number;
            stackSort[free] = sort;
            height[depth - 1]++;
        }

        void pushTaken(int i) {
            push(taken[i], takenSort[i]);
        }

        boolean tookBound(int i) {
            return takenSort[i] == BOUND;
        }

        /** The sort of what is made of so many INTS taken. */
        int sortOfResult(int operands) {
            boolean bound = takenSort[0] == BOUND || operands == 2 && takenSort[1] == BOUND;
            return bound ? BOUND : PLAIN;
        }

        void load(int i) {
            int from = (depth - 1) * LOCALS + i;
            push(local[from], localSort[from]);
        }

        void store(int i) {
            int to = (depth - 1) * LOCALS + i;
            local[to] = taken[0];
            localSort[to] = takenSort[0];
        }

        boolean hasReference(int i) {
            return localSort[(depth - 1) * LOCALS + i] == REFERENCE;
        }

        void addToLocal(int i, int number) {
            local[(depth - 1) * LOCALS + i] += number;
        }

        void catchAt(int handlerPlace, int raised) {
            height[depth - 1] = 0;
            push(raised, PLAIN);
            standAt(handlerPlace);
        }

        private int lowestOf(int takes) {
            return (depth - 1) * HIGHEST + height[depth - 1] - takes;
        }
    }

    /** The arrays of a RUN. */
    private static final class Heap {
        private static final int ARRAYS = 8;
        private static final int CELLS = 8;

        private int made = 0;
        private final int[] length = new int[ARRAYS];
        private final int[] cell = new int[ARRAYS * CELLS];
        private final int[] cellSort = new int[ARRAYS * CELLS];

        void wipe() {
            made = 0;
        }

        boolean canMake(int cells) {
            return made < ARRAYS && cells <= CELLS;
        }

        int make(int cells) {
            int array = made;
            made++;
            length[array] = cells;
            for (int i = 0; i < cells; i++) {
                cell[array * CELLS + i] = 0;
                cellSort[array * CELLS + i] = Frames.PLAIN;
            }
            return array;
        }

        int lengthOf(int array) {
            return length[array];
        }

        boolean hasCell(int array, int i) {
            return i >= 0 && i < length[array];
        }

        int numberIn(int array, int i) {
            return cell[array * CELLS + i];
        }

        int sortIn(int array, int i) {
            return cellSort[array * CELLS + i];
        }

        void put(int array, int i, int number, int sort) {
            cell[array * CELLS + i] = number;
            cellSort[array * CELLS + i] = sort;
        }
    }

    /**
     * The EVENTS of a RUN. Each is one small int, so that two are compared at once:
     * a SIDE is 0 .. 3, and the INT of a PIN 0 .. 8, as no array has more cells.
     */
    private static final class Journal {
        static final int MOST = 20;
        private static final int NUMBER_MASK = 15;
        private static final int PIN_BIT = 16;
        private static final int INSTRUCTION_SHIFT = 5;

        final int[] events = new int[MOST];
        int size = 0;
        boolean cut = false;
        boolean pinned = false;

        static int decision(int instruction, int side) {
            return instruction << INSTRUCTION_SHIFT | side;
        }

        static int pin(int instruction, int number) {
            return instruction << INSTRUCTION_SHIFT | PIN_BIT | number;
        }

        static int instructionOf(int event) {
            return event >> INSTRUCTION_SHIFT;
        }

        static int numberOf(int event) {
            return event & NUMBER_MASK;
        }

        static boolean isPin(int event) {
            return (event & PIN_BIT) != 0;
        }

        void wipe() {
            size = 0;
            cut = false;
            pinned = false;
        }

        void add(int event) {
            pinned = pinned || (event & PIN_BIT) != 0;
            if (size < MOST) {
                events[size] = event;
                size++;
            } else {
                cut = true;
            }
        }
    }

    /** Does RUNS of the PROGRAM. */
    private static final class Machine {
        private static final int MOST_STEPS = 150;
        private static final int GOING = -1;
        private static final int NOTHING_RAISED = 0;
        private static final int BY_ZERO = 1;
        private static final int NO_CELL = 2;
        private static final int BELOW_ZERO = 3;
        private static final int NULL_USED = 4;
        // By operation. CALL takes its METHOD's arguments; what RETURN puts, another FRAME gets.
        private static final int[] TAKES = {
            0, 0, 1, 2, 2, 2, 2, 2, 2, 2, 2, 2, 2, 2, 1, 1, 1, 1,
            1, 2, 2, 1, 0, 1, 2, 1, 1, 2, 3, 1, 0, 0, 1, 0, 0,
        };
        private static final int[] PUTS = {
            1, 1, 0, 1, 1, 1, 1, 1, 1, 1, 1, 1, 1, 1, 1, 1, 1, 1,
            2, 3, 2, 0, 0, 0, 0, 0, 1, 1, 0, 1, 1, 0, 0, 0, 0,
        };

        private final Program program;
        private final Frames frames = new Frames();
        private final Heap heap = new Heap();
        final Journal journal = new Journal();
        int outcome = GOING;
        int steps = 0;
        private int result = 0;
        private int here = 0;
        private int raised = NOTHING_RAISED;

        Machine(Program program) {
            this.program = program;
        }

        /** A RUN of a PROGRAM whose ENTRY is defined. */
        void perform(int p, int q) {
            heap.wipe();
            journal.wipe();
            frames.begin(program.start[0], p, q);
            outcome = GOING;
            steps = 0;
            while (outcome == GOING && steps < MOST_STEPS) {
                steps++;
                step();
            }
            if (outcome == GOING) {
                outcome = TIRED;
            }
        }

        /** The int RETURNED or THROWN, or NONE. */
        long answer() {
            return outcome == RETURNED || outcome == THROWN ? result : NONE;
        }

        private void step() {
            here = frames.standing();
            if (!program.has(here)) {
                outcome = BROKEN;
                return;
            }
            int operation = program.operation[here];
            int a = program.a[here];
            int takes = operation == Program.CALL ? program.arguments[a] : TAKES[operation];
            if (isBroken(operation, a, takes)) {
                outcome = BROKEN;
                return;
            }
            frames.take(takes);
            frames.standAt(here + 1);
            raised = NOTHING_RAISED;
            if (operation < Program.GOTO) {
                operate(operation, a);
            } else {
                steer(operation, a, program.b[here]);
            }
            if (raised != NOTHING_RAISED) {
                unwind();
            }
        }

        private boolean isBroken(int operation, int a, int takes) {
            if (!frames.holds(takes) || !frames.hasRoom(0, takes, PUTS[operation])) {
                return true;
            }
            for (int i = 0; i < takes; i++) {
                if (!takesSort(operation, i, frames.sortAt(takes, i))) {
                    return true;
                }
            }
            switch (operation) {
                case Program.CALL:
                    return !program.isDefined(a);
                case Program.RETURN:
                    return frames.depth > 1 && !frames.hasRoom(1, 0, 1);
                case Program.ADD_TO_LOCAL:
                    return frames.hasReference(a);
                default:
                    return false;
            }
        }

        /** Whether the operation takes a VALUE of the sort as its i-th. */
        private static boolean takesSort(int operation, int i, int sort) {
            switch (operation) {
                case Program.STORE:
                case Program.DUP:
                case Program.DUP_X1:
                case Program.SWAP:
                case Program.POP:
                case Program.CALL:
                    return true;
                case Program.ALOAD:
                case Program.ASTORE:
                case Program.LENGTH:
                    return (i == 0) == (sort == Frames.REFERENCE);
                default:
                    return sort != Frames.REFERENCE;
            }
        }

        /** The operations on the stack and the locals. */
        private void operate(int operation, int a) {
            switch (operation) {
                case Program.PUSH:
                    frames.push(a, Frames.PLAIN);
                    break;
                case Program.LOAD:
                    frames.load(a);
                    break;
                case Program.STORE:
                    frames.store(a);
                    break;
                case Program.DIV:
                case Program.REM:
                    divide(operation);
                    break;
                case Program.DUP:
                    frames.pushTaken(0);
                    frames.pushTaken(0);
                    break;
                case Program.DUP_X1:
                    frames.pushTaken(1);
                    frames.pushTaken(0);
                    frames.pushTaken(1);
                    break;
                case Program.SWAP:
                    frames.pushTaken(1);
                    frames.pushTaken(0);
                    break;
                case Program.POP:
                    break;
                default:
                    calculate(operation);
                    break;
            }
        }

        /** The operations that jump, use arrays, raise, or change FRAMES, and ADD_TO_LOCAL. */
        private void steer(int operation, int a, int b) {
            switch (operation) {
                case Program.GOTO:
                    frames.standAt(a);
                    break;
                case Program.IF:
                    branch(a, b, 0, false);
                    break;
                case Program.IFCMP:
                    branch(a, b, frames.taken[1], frames.tookBound(1));
                    break;
                case Program.SWITCH:
                    choose(a, b);
                    break;
                case Program.NEW:
                    makeArray();
                    break;
                case Program.ALOAD:
                case Program.ASTORE:
                    useCell(operation);
                    break;
                case Program.LENGTH:
                    measure();
                    break;
                case Program.NULL:
                    frames.push(Frames.NULL_ARRAY, Frames.REFERENCE);
                    break;
                case Program.THROW:
                    raised = a;
                    break;
                case Program.RETURN:
                    giveBack();
                    break;
                case Program.CALL:
                    enter(a);
                    break;
                default:
                    frames.addToLocal(a, b);
                    break;
            }
        }

        private void divide(int operation) {
            int x = frames.taken[0];
            int y = frames.taken[1];
            if (frames.tookBound(1)) {
                journal.add(Journal.decision(here, y == 0 ? 1 : 0));
            }
            if (y == 0) {
                raised = BY_ZERO;
            } else {
                frames.push(operation == Program.DIV ? x / y : x % y, frames.sortOfResult(2));
            }
        }

        private void calculate(int operation) {
            int x = frames.taken[0];
            if (TAKES[operation] == 1) {
                frames.push(convert(operation, x), frames.sortOfResult(1));
            } else {
                frames.push(combine(operation, x, frames.taken[1]), frames.sortOfResult(2));
            }
        }

        private static int convert(int operation, int x) {
            switch (operation) {
                case Program.BYTE:
                    return (byte) x;
                case Program.CHAR:
                    return (char) x;
                case Program.SHORT:
                    return (short) x;
                default:
                    return -x;
            }
        }

        private static int combine(int operation, int x, int y) {
            switch (operation) {
                case Program.SUB:
                    return x - y;
                case Program.MUL:
                    return x * y;
                case Program.AND:
                    return x & y;
                case Program.OR:
                    return x | y;
                case Program.XOR:
                    return x ^ y;
                case Program.SHL:
                    return x << y;
                case Program.SHR:
                    return x >> y;
                case Program.USHR:
                    return x >>> y;
                default:
                    return x + y;
            }
        }

        private void branch(int target, int comparison, int y, boolean yBound) {
            boolean jumps = compares(comparison, frames.taken[0], y);
            if (frames.tookBound(0) || yBound) {
                journal.add(Journal.decision(here, jumps ? 1 : 0));
            }
            if (jumps) {
                frames.standAt(target);
            }
        }

        private static boolean compares(int comparison, int x, int y) {
            switch (comparison) {
                case 0:
                    return x == y;
                case 1:
                    return x != y;
                case 2:
                    return x < y;
                case 3:
                    return x >= y;
                case 4:
                    return x > y;
                default:
                    return x <= y;
            }
        }

        private void choose(int target, int least) {
            int offset = frames.taken[0] - least;
            int side = within(offset, 0, 2) ? offset : 3;
            if (frames.tookBound(0)) {
                journal.add(Journal.decision(here, side));
            }
            frames.standAt(target + side);
        }

        private void makeArray() {
            int cells = frames.taken[0];
            boolean bound = frames.tookBound(0);
            if (bound) {
                journal.add(Journal.decision(here, cells < 0 ? 1 : 0));
            }
            if (cells < 0) {
                raised = BELOW_ZERO;
            } else if (!heap.canMake(cells)) {
                outcome = LIMIT;
            } else {
                if (bound) {
                    journal.add(Journal.pin(here, cells));
                }
                frames.push(heap.make(cells), Frames.REFERENCE);
            }
        }

        private void useCell(int operation) {
            int array = frames.taken[0];
            int i = frames.taken[1];
            if (array == Frames.NULL_ARRAY) {
                raised = NULL_USED;
                return;
            }
            boolean bound = frames.tookBound(1);
            boolean isCell = heap.hasCell(array, i);
            if (bound) {
                journal.add(Journal.decision(here, isCell ? 0 : 1));
            }
            if (!isCell) {
                raised = NO_CELL;
                return;
            }
            if (bound) {
                journal.add(Journal.pin(here, i));
            }
            if (operation == Program.ALOAD) {
                frames.push(heap.numberIn(array, i), heap.sortIn(array, i));
            } else {
                heap.put(array, i, frames.taken[2], frames.takenSort[2]);
            }
        }

        private void measure() {
            int array = frames.taken[0];
            if (array == Frames.NULL_ARRAY) {
                raised = NULL_USED;
            } else {
                frames.push(heap.lengthOf(array), Frames.PLAIN);
            }
        }

        private void giveBack() {
            frames.leave();
            if (frames.depth > 0) {
                frames.push(frames.taken[0], frames.takenSort[0]);
            } else {
                outcome = RETURNED;
                result = frames.taken[0];
            }
        }

        private void enter(int m) {
            if (frames.depth >= Frames.DEEPEST) {
                outcome = DEEP;
            } else {
                frames.enter(program.start[m], program.arguments[m]);
            }
        }

        private void unwind() {
            int at = here;
            for (int open = frames.depth; open > 0; open--) {
                int place = program.handlerPlace(at, raised);
                if (place >= 0) {
                    frames.catchAt(place, raised);
                    return;
                }
                frames.leave();
                // A FRAME that waits for another stands already behind its CALL.
                at = frames.depth > 0 ? frames.standing() - 1 : 0;
            }
            outcome = THROWN;
            result = raised;
        }
    }

    /**
     * The inputs in the RANGES, numbered by P, then by Q. A row of numbers for each P is
     * as long as the widest RANGE, so that no number has to be divided.
     */
    private static final class Inputs {
        static final int WIDEST = 16;
        static final int MOST = WIDEST * WIDEST;
        private static final int ROW_SHIFT = 4;

        private final int[] least = {0, 0};
        private final int[] width = {4, 4};

        void setRange(int i, int lo, int newWidth) {
            least[i] = lo;
            width[i] = newWidth;
        }

        boolean has(int input) {
            return input >> ROW_SHIFT < width[0] && (input & WIDEST - 1) < width[1];
        }

        int p(int input) {
            return least[0] + (input >> ROW_SHIFT);
        }

        int q(int input) {
            return least[1] + (input & WIDEST - 1);
        }
    }

    /**
     * The EVENTS of the RUNS on all inputs, as a tree: a node stands for all the EVENTS on
     * the way to it, and knows the first input that came by and the SIDES that are TRIED
     * behind it. (The same EVENTS before lead to the same DECISION, so SIDES are enough.)
     */
    private static final class Tree {
        static final int ROOT = 0;
        static final int NO_NODE = -1;
        private static final int MOST_NODES = Inputs.MOST * Journal.MOST + 1;

        private int size = 0;
        private final int[] event = new int[MOST_NODES];
        private final int[] firstInput = new int[MOST_NODES];
        private final int[] triedSides = new int[MOST_NODES];
        private final int[] firstChild = new int[MOST_NODES];
        private final int[] nextSibling = new int[MOST_NODES];

        void wipe() {
            size = 0;
            addNode(0, 0, NO_NODE);
        }

        /** Inputs come in their order: thus the first one at a node is the least. */
        void addWay(Journal journal, int input) {
            int node = ROOT;
            for (int i = 0; i < journal.size; i++) {
                int next = childOf(node, journal.events[i]);
                if (next == NO_NODE) {
                    next = addNode(journal.events[i], input, firstChild[node]);
                    firstChild[node] = next;
                }
                node = next;
            }
        }

        int childOf(int node, int wanted) {
            int child = firstChild[node];
            for (int seen = 0; seen < size && child != NO_NODE; seen++) {
                if (event[child] == wanted) {
                    return child;
                }
                child = nextSibling[child];
            }
            return NO_NODE;
        }

        int firstInputAt(int node) {
            return firstInput[node];
        }

        boolean isTried(int node, int side) {
            return (triedSides[node] >> side & 1) != 0;
        }

        void setTried(int node, int side) {
            triedSides[node] |= 1 << side;
        }

        private int addNode(int newEvent, int input, int sibling) {
            int node = size;
            size++;
            event[node] = newEvent;
            firstInput[node] = input;
            triedSides[node] = 0;
            firstChild[node] = NO_NODE;
            nextSibling[node] = sibling;
            return node;
        }
    }

    /**
     * The WORK, oldest first. No input is WORK twice: only a SIDE that no TEST and no other
     * WORK has come by is not TRIED yet. So there is a place for each.
     */
    private static final class Work {
        private final int[] waiting = new int[Inputs.MOST];
        private int oldest = 0;
        private int end = 0;
        int most = 0;

        void wipe() {
            oldest = 0;
            end = 0;
            most = 0;
        }

        boolean isLeft() {
            return oldest < end;
        }

        void add(int input) {
            if (end < Inputs.MOST) {
                waiting[end] = input;
                end++;
            }
            most = Math.max(most, end - oldest);
        }

        int takeNewest() {
            end--;
            return waiting[end];
        }

        int takeOldest() {
            oldest++;
            return waiting[oldest - 1];
        }
    }

    /** The TESTS of the last explore. */
    private static final class Tests {
        static final int MOST = 40;
        private static final int FACTS = 6;
        private static final int EVENT_COUNT = 4;

        int size = 0;
        private final long[] facts = new long[MOST * FACTS];
        private final int[] events = new int[MOST * Journal.MOST];

        void wipe() {
            size = 0;
        }

        void keep(int p, int q, Machine machine) {
            int first = size * FACTS;
            facts[first] = p;
            facts[first + 1] = q;
            facts[first + 2] = machine.outcome;
            facts[first + 3] = machine.answer();
            facts[first + EVENT_COUNT] = machine.journal.size;
            facts[first + 5] = machine.steps;
            for (int i = 0; i < machine.journal.size; i++) {
                events[size * Journal.MOST + i] = machine.journal.events[i];
            }
            size++;
        }

        long fact(int k, int what) {
            if (!within(k, 0, size - 1) || !within(what, 0, FACTS - 1)) {
                return NONE;
            }
            return facts[k * FACTS + what];
        }

        boolean hasEvent(int k, int i) {
            return within(k, 0, size - 1) && i >= 0 && i < facts[k * FACTS + EVENT_COUNT];
        }

        int eventAt(int k, int i) {
            return events[k * Journal.MOST + i];
        }

        boolean hold(int event) {
            for (int k = 0; k < size; k++) {
                for (int i = 0; i < facts[k * FACTS + EVENT_COUNT]; i++) {
                    if (eventAt(k, i) == event) {
                        return true;
                    }
                }
            }
            return false;
        }
    }

    /** EXPLORES the PROGRAM. */
    private static final class Search {
        private final Program program;
        private final Machine machine;
        private final Inputs inputs;
        private final Tests tests;
        final Work work = new Work();
        // Made by the first explore: it is by far the largest part, and many objects need none.
        private Tree tree = null;
        int infeasible = 0;
        boolean wasComplete = false;

        Search(Program program, Machine machine, Inputs inputs, Tests tests) {
            this.program = program;
            this.machine = machine;
            this.inputs = inputs;
            this.tests = tests;
        }

        /** RUNS the PROGRAM on the inputs in their order, and keeps their ways. */
        void growTree() {
            if (tree == null) {
                tree = new Tree();
            }
            tree.wipe();
            boolean needed = true;
            for (int input = 0; input < Inputs.MOST && needed; input++) {
                if (inputs.has(input)) {
                    machine.perform(inputs.p(input), inputs.q(input));
                    tree.addWay(machine.journal, input);
                    // The first TEST is on input 0: without EVENTS it leaves nothing to look up.
                    needed = input > 0 || machine.journal.size > 0;
                }
            }
        }

        /** EXPLORES, once the tree is grown. */
        void tryAllWays(int way) {
            tests.wipe();
            work.wipe();
            infeasible = 0;
            boolean allWhole = true;
            work.add(0);
            for (int k = 0; k < Tests.MOST && work.isLeft(); k++) {
                int input = way == 0 ? work.takeNewest() : work.takeOldest();
                machine.perform(inputs.p(input), inputs.q(input));
                tests.keep(inputs.p(input), inputs.q(input), machine);
                allWhole = allWhole && wasWhole();
                turnRound();
            }
            wasComplete = allWhole && !work.isLeft();
        }

        /** Whether nothing of the machine's last RUN stands against being COMPLETE. */
        private boolean wasWhole() {
            boolean ended = machine.outcome == RETURNED
                || machine.outcome == THROWN
                || machine.outcome == BROKEN;
            return ended && !machine.journal.cut && !machine.journal.pinned;
        }

        private void turnRound() {
            Journal journal = machine.journal;
            int node = Tree.ROOT;
            for (int i = 0; i < journal.size && node != Tree.NO_NODE; i++) {
                int event = journal.events[i];
                if (!Journal.isPin(event)) {
                    tree.setTried(node, Journal.numberOf(event));
                    tryOtherSides(node, Journal.instructionOf(event));
                }
                node = tree.childOf(node, event);
            }
        }

        private void tryOtherSides(int node, int instruction) {
            int sides = program.sidesAt(instruction);
            for (int side = 0; side < sides; side++) {
                if (!tree.isTried(node, side)) {
                    tree.setTried(node, side);
                    int other = tree.childOf(node, Journal.decision(instruction, side));
                    if (other == Tree.NO_NODE) {
                        infeasible++;
                    } else {
                        work.add(tree.firstInputAt(other));
                    }
                }
            }
        }
    }
}
