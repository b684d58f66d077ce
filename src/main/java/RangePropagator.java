import java.util.NoSuchElementException;

/**
 * An analysis of the ranges of integer variables in a program of blocks.
 * Ranges are propagated along edges, branches refine them, loops are widened
 * to thresholds and narrowed again; edges that can never be taken are told.
 * Programs can be executed, too.
 */
public final class RangePropagator {
    private static final int VARIABLES = 6;
    private static final int MOST_BLOCKS = 16;
    private static final int MOST_STATEMENTS = 8;
    private static final int MOST_EDGES = 2;
    private static final int MOST_THRESHOLDS = 8;
    private static final int MOST_DELAY = 10;
    private static final int MOST_NARROWINGS = 5;
    private static final int MOST_STEPS = 300;

    // An entry state changes at most 10 times before it is widened, and then
    // each of its 12 ends meets at most 10 thresholds: 16 blocks need some
    // 2,100 rounds at the very most, far fewer than these.
    private static final int MOST_ROUNDS = 1000000;

    private static final int LEAST = -1000000000;
    private static final int GREATEST = 1000000000;

    private static final int COPY = 0;
    private static final int ADD = 1;
    private static final int SUB = 2;
    private static final int MUL = 3;
    private static final int MIN = 4;
    private static final int MAX = 5;
    private static final int INPUT = 6;
    private static final int SET = 7;

    private static final int LESS = 0;
    private static final int NOT_GREATER = 1;
    private static final int EQUAL = 2;
    private static final int UNEQUAL = 3;

    private final Program program;
    private final Settings settings;
    private final Analysis analysis;
    private final Execution execution;
    private boolean analysisStands;

    public RangePropagator() {
        program = new Program();
        settings = new Settings();
        analysis = new Analysis();
        execution = new Execution();
        analysisStands = false;
    }

    // ---- program

    public int addBlock() throws IllegalStateException {
        if (program.count >= MOST_BLOCKS) {
            throw new IllegalStateException("there are 16 blocks");
        }
        analysisStands = false;
        program.count++;
        return program.count - 1;
    }

    public boolean setInitial(int variable, int low, int high)
            throws IndexOutOfBoundsException, IllegalArgumentException {
        requireVariable(variable);
        requireRange(low, high);
        analysisStands = false;
        State initial = program.initial;
        boolean isOther = initial.low[variable] != low || initial.high[variable] != high;
        initial.setRange(variable, low, high);
        return isOther;
    }

    public int input(int block, int x, int low, int high)
            throws IndexOutOfBoundsException, IllegalArgumentException, IllegalStateException {
        requireBlock(block);
        requireVariable(x);
        requireRange(low, high);
        requireRoom(block);
        analysisStands = false;
        return program.blocks[block].append(low == high ? SET : INPUT, x, low, high);
    }

    public int compute(int block, int kind, int x, int y, int z)
            throws IndexOutOfBoundsException, IllegalArgumentException, IllegalStateException {
        requireBlock(block);
        requireVariable(x);
        requireVariable(y);
        requireVariable(z);
        if (kind < COPY || kind > MAX) {
            throw new IllegalArgumentException("kind is not 0 to 5");
        }
        requireRoom(block);
        analysisStands = false;
        return program.blocks[block].append(kind, x, y, z);
    }

    public int jump(int block, int a) throws IndexOutOfBoundsException {
        requireBlock(block);
        requireBlock(a);
        analysisStands = false;
        Block changed = program.blocks[block];
        int before = changed.edgeCount;
        changed.endWithJump(a);
        return before;
    }

    public int branch(int block, int x, int relation, int y, int a, int b)
            throws IndexOutOfBoundsException, IllegalArgumentException {
        requireBlock(block);
        requireVariable(x);
        requireVariable(y);
        requireBlock(a);
        requireBlock(b);
        if (relation < LESS || relation > UNEQUAL) {
            throw new IllegalArgumentException("relation is not 0 to 3");
        }
        analysisStands = false;
        Block changed = program.blocks[block];
        int before = changed.edgeCount;
        changed.endWithBranch(x, relation, y, a, b);
        return before;
    }

    public int clear(int block) throws IndexOutOfBoundsException {
        requireBlock(block);
        analysisStands = false;
        Block changed = program.blocks[block];
        int before = changed.statementCount;
        changed.makeEmpty();
        return before;
    }

    public int blockCount() {
        return program.count;
    }

    // ---- settings

    public boolean setEffort(int delay, int narrowings) throws IllegalArgumentException {
        if (delay < 0 || delay > MOST_DELAY) {
            throw new IllegalArgumentException("delay is not 0 to 10");
        }
        if (narrowings < 0 || narrowings > MOST_NARROWINGS) {
            throw new IllegalArgumentException("narrowings is not 0 to 5");
        }
        analysisStands = false;
        boolean isOther = settings.delay != delay || settings.narrowings != narrowings;
        settings.delay = delay;
        settings.narrowings = narrowings;
        return isOther;
    }

    public int addThreshold(int threshold) throws IllegalArgumentException, IllegalStateException {
        if (threshold <= LEAST || threshold >= GREATEST) {
            throw new IllegalArgumentException("threshold is not -999999999 to 999999999");
        }
        if (settings.thresholdCount >= MOST_THRESHOLDS) {
            throw new IllegalStateException("there are 8 thresholds");
        }
        analysisStands = false;
        settings.keepThreshold(threshold);
        return settings.thresholdCount;
    }

    // ---- analysis

    public int analyze() {
        analysis.forget();
        int rounds = analysis.makeRounds(program, settings);
        analysis.makeNarrowings(program, settings.narrowings);
        analysisStands = true;
        return rounds;
    }

    public boolean isAnalyzed() {
        return analysisStands;
    }

    public boolean isReachable(int block) throws IllegalStateException, IndexOutOfBoundsException {
        requireAnalysis();
        requireBlock(block);
        return !analysis.flows[block].entryState.isNone;
    }

    public int entry(int block, int variable, boolean isHigh)
            throws IllegalStateException, IndexOutOfBoundsException, NoSuchElementException {
        requireAnalysis();
        requireBlock(block);
        requireVariable(variable);
        return endOfRange(analysis.flows[block].entryState, variable, isHigh);
    }

    public int exit(int block, int variable, boolean isHigh)
            throws IllegalStateException, IndexOutOfBoundsException, NoSuchElementException {
        requireAnalysis();
        requireBlock(block);
        requireVariable(variable);
        return endOfRange(analysis.flows[block].exitState, variable, isHigh);
    }

    public boolean isDead(int block, int edge) throws IllegalStateException, IndexOutOfBoundsException {
        requireAnalysis();
        requireBlock(block);
        if (edge < 0 || edge >= program.blocks[block].edgeCount) {
            throw new IndexOutOfBoundsException("there is no such edge");
        }
        return analysis.flows[block].edgeStates[edge].isNone;
    }

    public int deadEdges() throws IllegalStateException {
        requireAnalysis();
        int dead = 0;
        for (int block = 0; block < program.count; block++) {
            dead += analysis.flows[block].countDeadEdges(program.blocks[block].edgeCount);
        }
        return dead;
    }

    public int constants(int block) throws IllegalStateException, IndexOutOfBoundsException {
        requireAnalysis();
        requireBlock(block);
        return analysis.flows[block].exitState.countConstants();
    }

    public int visits(int block) throws IllegalStateException, IndexOutOfBoundsException {
        requireAnalysis();
        requireBlock(block);
        return analysis.flows[block].visitCount;
    }

    // ---- execution

    public int run(long seed, int steps) throws IllegalArgumentException {
        if (steps < 1 || steps > MOST_STEPS) {
            throw new IllegalArgumentException("steps is not 1 to 300");
        }
        execution.execute(program, seed, steps);
        return execution.stepCount;
    }

    public int enteredBlock(int step) throws IndexOutOfBoundsException {
        requireStep(step);
        return execution.stepBlocks[step];
    }

    public int enteredWith(int step, int variable) throws IndexOutOfBoundsException {
        requireStep(step);
        requireVariable(variable);
        return execution.stepValues[step * VARIABLES + variable];
    }

    public int result(int variable) throws IndexOutOfBoundsException {
        requireVariable(variable);
        return execution.values[variable];
    }

    public long digest() {
        long d = 89;
        d = digestProgram(d);
        d = d * 31 + settings.delay;
        d = d * 31 + settings.narrowings;
        d = d * 31 + settings.thresholdCount;
        if (analysisStands) {
            d = digestAnalysis(d);
        }
        for (int variable = 0; variable < VARIABLES; variable++) {
            d = d * 31 + execution.values[variable];
        }
        return d;
    }

    private long digestProgram(long start) {
        long d = start * 31 + program.count;
        for (int block = 0; block < program.count; block++) {
            d = d * 31 + program.blocks[block].statementCount;
            d = d * 31 + program.blocks[block].edgeCount;
        }
        return d;
    }

    private long digestAnalysis(long start) {
        long d = start;
        for (int block = 0; block < program.count; block++) {
            Flow flow = analysis.flows[block];
            d = d * 31 + flow.visitCount;
            if (!flow.entryState.isNone) {
                d = digestRanges(d, flow.entryState);
            }
        }
        return d;
    }

    private static long digestRanges(long start, State state) {
        long d = start;
        for (int variable = 0; variable < VARIABLES; variable++) {
            d = d * 31 + state.low[variable];
            d = d * 31 + state.high[variable];
        }
        return d;
    }

    private static int endOfRange(State state, int variable, boolean isHigh) {
        if (state.isNone) {
            throw new NoSuchElementException("the entry state is none");
        }
        return isHigh ? state.high[variable] : state.low[variable];
    }

    private void requireBlock(int block) {
        if (block < 0 || block >= program.count) {
            throw new IndexOutOfBoundsException("there is no such block");
        }
    }

    private void requireRoom(int block) {
        if (program.blocks[block].statementCount >= MOST_STATEMENTS) {
            throw new IllegalStateException("the block has 8 statements");
        }
    }

    private void requireStep(int step) {
        if (step < 0 || step >= execution.stepCount) {
            throw new IndexOutOfBoundsException("there is no such step");
        }
    }

    private void requireAnalysis() {
        if (!analysisStands) {
            throw new IllegalStateException("there is no analysis");
        }
    }

    private static void requireVariable(int variable) {
        if (variable < 0 || variable >= VARIABLES) {
            throw new IndexOutOfBoundsException("there is no such variable");
        }
    }

    private static void requireRange(int low, int high) {
        if (low < LEAST || high > GREATEST || low > high) {
            throw new IllegalArgumentException("this is no range");
        }
    }

    /** The initial ranges and the blocks; the rows for all blocks are there from the beginning. */
    private static final class Program {
        final Block[] blocks = new Block[MOST_BLOCKS];
        final State initial = new State();
        int count = 1;

        Program() {
            for (int block = 0; block < MOST_BLOCKS; block++) {
                blocks[block] = new Block();
            }
            initial.isNone = false;
        }
    }

    /** The statements of a block and its end. */
    private static final class Block {
        int statementCount = 0;
        final int[] kinds = new int[MOST_STATEMENTS];
        final int[] targets = new int[MOST_STATEMENTS];
        // The variables y and z; for an INPUT or a SET the low and the high end.
        final int[] firsts = new int[MOST_STATEMENTS];
        final int[] seconds = new int[MOST_STATEMENTS];

        // No edge is a RETURN, one a JUMP, two are a BRANCH.
        int edgeCount = 0;
        final int[] followers = new int[MOST_EDGES];
        int branchX = 0;
        int branchY = 0;
        int relation = 0;

        int append(int kind, int x, int first, int second) {
            int at = statementCount;
            if (at < MOST_STATEMENTS) {
                kinds[at] = kind;
                targets[at] = x;
                firsts[at] = first;
                seconds[at] = second;
                statementCount = at + 1;
            }
            return statementCount;
        }

        void endWithJump(int a) {
            edgeCount = 1;
            followers[0] = a;
        }

        void endWithBranch(int x, int newRelation, int y, int a, int b) {
            edgeCount = 2;
            branchX = x;
            relation = newRelation;
            branchY = y;
            followers[0] = a;
            followers[1] = b;
        }

        void makeEmpty() {
            statementCount = 0;
            edgeCount = 0;
        }

        /** Makes of a state the one behind the statements. */
        void applyTo(State state) {
            if (state.isNone) {
                return;
            }
            for (int at = 0; at < statementCount; at++) {
                if (kinds[at] == INPUT || kinds[at] == SET) {
                    state.setRange(targets[at], firsts[at], seconds[at]);
                } else {
                    state.assign(kinds[at], targets[at], firsts[at], seconds[at]);
                }
            }
        }

        /** Makes of the state behind the statements the one of an edge. */
        void refineForEdge(State state, int edge) {
            if (state.isNone || edgeCount < 2) {
                return;
            }
            if (edge == 0) {
                state.refine(branchX, relation, branchY);
            } else {
                state.refine(branchY, Arithmetic.oppositeOfSwapped(relation), branchX);
            }
        }
    }

    /** What the statements and the relations do with integers. */
    private static final class Arithmetic {
        static int outcome(int kind, int y, int z) {
            long value;
            switch (kind) {
                case ADD:
                    value = (long) y + z;
                    break;
                case SUB:
                    value = (long) y - z;
                    break;
                case MUL:
                    value = (long) y * z;
                    break;
                case MIN:
                    value = Math.min(y, z);
                    break;
                case MAX:
                    value = Math.max(y, z);
                    break;
                default:
                    value = y;
                    break;
            }
            return (int) Math.max(LEAST, Math.min(GREATEST, value));
        }

        static boolean isTrue(int x, int relation, int y) {
            switch (relation) {
                case LESS:
                    return x < y;
                case NOT_GREATER:
                    return x <= y;
                case EQUAL:
                    return x == y;
                default:
                    return x != y;
            }
        }

        /** The relation of y to x that is true where the given one of x to y is false. */
        static int oppositeOfSwapped(int relation) {
            switch (relation) {
                case LESS:
                    return NOT_GREATER;
                case NOT_GREATER:
                    return LESS;
                case EQUAL:
                    return UNEQUAL;
                default:
                    return EQUAL;
            }
        }
    }

    /** "None", or a range for each variable. */
    private static final class State {
        boolean isNone = true;
        final int[] low = new int[VARIABLES];
        final int[] high = new int[VARIABLES];

        void become(State other) {
            isNone = other.isNone;
            System.arraycopy(other.low, 0, low, 0, VARIABLES);
            System.arraycopy(other.high, 0, high, 0, VARIABLES);
        }

        boolean differsFrom(State other) {
            if (isNone || other.isNone) {
                return isNone != other.isNone;
            }
            for (int variable = 0; variable < VARIABLES; variable++) {
                if (low[variable] != other.low[variable] || high[variable] != other.high[variable]) {
                    return true;
                }
            }
            return false;
        }

        void join(State other) {
            if (other.isNone) {
                return;
            }
            if (isNone) {
                become(other);
                return;
            }
            for (int variable = 0; variable < VARIABLES; variable++) {
                low[variable] = Math.min(low[variable], other.low[variable]);
                high[variable] = Math.max(high[variable], other.high[variable]);
            }
        }

        void narrowTo(State other) {
            if (isNone || other.isNone) {
                isNone = true;
                return;
            }
            for (int variable = 0; variable < VARIABLES; variable++) {
                low[variable] = Math.max(low[variable], other.low[variable]);
                high[variable] = Math.min(high[variable], other.high[variable]);
            }
        }

        int countConstants() {
            int count = 0;
            for (int variable = 0; !isNone && variable < VARIABLES; variable++) {
                if (isConstant(variable)) {
                    count++;
                }
            }
            return count;
        }

        boolean isConstant(int variable) {
            return low[variable] == high[variable];
        }

        void setRange(int variable, int newLow, int newHigh) {
            low[variable] = newLow;
            high[variable] = newHigh;
        }

        /** Each kind is least and greatest at ends of the ranges, so its four outcomes there suffice. */
        void assign(int kind, int x, int y, int z) {
            int lowLow = Arithmetic.outcome(kind, low[y], low[z]);
            int lowHigh = Arithmetic.outcome(kind, low[y], high[z]);
            int highLow = Arithmetic.outcome(kind, high[y], low[z]);
            int highHigh = Arithmetic.outcome(kind, high[y], high[z]);
            low[x] = Math.min(Math.min(lowLow, lowHigh), Math.min(highLow, highHigh));
            high[x] = Math.max(Math.max(lowLow, lowHigh), Math.max(highLow, highHigh));
        }

        void refine(int x, int relation, int y) {
            if (x == y) {
                // Any integer equals itself, whatever the range is.
                isNone = !Arithmetic.isTrue(0, relation, 0);
                return;
            }
            switch (relation) {
                case LESS:
                    keepOrdered(x, y, 1);
                    break;
                case NOT_GREATER:
                    keepOrdered(x, y, 0);
                    break;
                case EQUAL:
                    keepEqual(x, y);
                    break;
                default:
                    keepUnequal(x, y);
                    break;
            }
        }

        /** Keeps what has x + gap not greater than y. */
        private void keepOrdered(int x, int y, int gap) {
            if (low[x] + gap > high[y]) {
                isNone = true;
                return;
            }
            high[x] = Math.min(high[x], high[y] - gap);
            low[y] = Math.max(low[y], low[x] + gap);
        }

        private void keepEqual(int x, int y) {
            int newLow = Math.max(low[x], low[y]);
            int newHigh = Math.min(high[x], high[y]);
            if (newLow > newHigh) {
                isNone = true;
                return;
            }
            setRange(x, newLow, newHigh);
            setRange(y, newLow, newHigh);
        }

        private void keepUnequal(int x, int y) {
            if (isConstant(x) && isConstant(y)) {
                isNone = low[x] == low[y];
            } else if (isConstant(x)) {
                cutOff(y, low[x]);
            } else if (isConstant(y)) {
                cutOff(x, low[y]);
            }
        }

        /** Takes an integer away from a range of two or more; inside of it, it would leave no smaller range. */
        private void cutOff(int variable, int value) {
            if (low[variable] == value) {
                low[variable] = value + 1;
            } else if (high[variable] == value) {
                high[variable] = value - 1;
            }
        }
    }

    /** The effort of the analysis and the thresholds. */
    private static final class Settings {
        int delay = 2;
        int narrowings = 1;
        int thresholdCount = 0;
        private final int[] thresholds = new int[MOST_THRESHOLDS];

        void keepThreshold(int threshold) {
            for (int at = 0; at < thresholdCount; at++) {
                if (thresholds[at] == threshold) {
                    return;
                }
            }
            if (thresholdCount < MOST_THRESHOLDS) {
                thresholds[thresholdCount] = threshold;
                thresholdCount++;
            }
        }

        /** Widens each end of the joined state that lies outside of the earlier one. */
        void widen(State joined, State earlier) {
            for (int variable = 0; variable < VARIABLES; variable++) {
                if (joined.low[variable] < earlier.low[variable]) {
                    joined.low[variable] = greatestUpTo(joined.low[variable]);
                }
                if (joined.high[variable] > earlier.high[variable]) {
                    joined.high[variable] = smallestFrom(joined.high[variable]);
                }
            }
        }

        // A low that has sunk is less than GREATEST, so LEAST alone of the two stands below it.
        private int greatestUpTo(int value) {
            int best = LEAST;
            for (int at = 0; at < thresholdCount; at++) {
                if (thresholds[at] <= value && thresholds[at] > best) {
                    best = thresholds[at];
                }
            }
            return best;
        }

        // A high that has risen is greater than LEAST, so GREATEST alone of the two stands above it.
        private int smallestFrom(int value) {
            int best = GREATEST;
            for (int at = 0; at < thresholdCount; at++) {
                if (thresholds[at] >= value && thresholds[at] < best) {
                    best = thresholds[at];
                }
            }
            return best;
        }
    }

    /** What the analysis knows of a block. */
    private static final class Flow {
        final State entryState = new State();
        final State exitState = new State();
        final State[] edgeStates = new State[MOST_EDGES];
        int visitCount = 0;

        Flow() {
            for (int edge = 0; edge < MOST_EDGES; edge++) {
                edgeStates[edge] = new State();
            }
        }

        void makeNone() {
            visitCount = 0;
            entryState.isNone = true;
            exitState.isNone = true;
            for (int edge = 0; edge < MOST_EDGES; edge++) {
                edgeStates[edge].isNone = true;
            }
        }

        /** Makes the states that follow from the entry state. */
        void makeAnew(Block block) {
            exitState.become(entryState);
            block.applyTo(exitState);
            for (int edge = 0; edge < block.edgeCount; edge++) {
                edgeStates[edge].become(exitState);
                block.refineForEdge(edgeStates[edge], edge);
            }
        }

        int countDeadEdges(int edgeCount) {
            int dead = 0;
            for (int edge = 0; !entryState.isNone && edge < edgeCount; edge++) {
                if (edgeStates[edge].isNone) {
                    dead++;
                }
            }
            return dead;
        }
    }

    /** The rounds and the narrowings. */
    private static final class Analysis {
        final Flow[] flows = new Flow[MOST_BLOCKS];
        private final State incoming = new State();
        private final State joined = new State();

        Analysis() {
            for (int block = 0; block < MOST_BLOCKS; block++) {
                flows[block] = new Flow();
            }
        }

        void forget() {
            for (int block = 0; block < MOST_BLOCKS; block++) {
                flows[block].makeNone();
            }
        }

        /** Returns the number of rounds; the last one changes nothing. */
        int makeRounds(Program program, Settings settings) {
            boolean isChanged = true;
            int rounds = 0;
            while (isChanged && rounds < MOST_ROUNDS) {
                rounds++;
                isChanged = false;
                for (int block = 0; block < program.count; block++) {
                    if (lookAt(program, settings, block)) {
                        isChanged = true;
                    }
                }
            }
            return rounds;
        }

        void makeNarrowings(Program program, int count) {
            for (int narrowing = 0; narrowing < count; narrowing++) {
                for (int block = 0; block < program.count; block++) {
                    narrow(program, block);
                }
            }
        }

        /** Tells whether the entry state of the block has changed. */
        private boolean lookAt(Program program, Settings settings, int block) {
            gatherIncoming(program, block);
            if (incoming.isNone) {
                return false;
            }
            Flow flow = flows[block];
            joined.become(flow.entryState);
            joined.join(incoming);
            if (!flow.entryState.isNone && flow.visitCount >= settings.delay) {
                settings.widen(joined, flow.entryState);
            }
            if (!joined.differsFrom(flow.entryState)) {
                return false;
            }
            flow.entryState.become(joined);
            flow.visitCount++;
            flow.makeAnew(program.blocks[block]);
            return true;
        }

        private void narrow(Program program, int block) {
            Flow flow = flows[block];
            if (flow.entryState.isNone) {
                return;
            }
            gatherIncoming(program, block);
            flow.entryState.narrowTo(incoming);
            flow.makeAnew(program.blocks[block]);
        }

        /** Joins what leads to a block, as it is now. */
        private void gatherIncoming(Program program, int target) {
            incoming.isNone = true;
            if (target == 0) {
                incoming.join(program.initial);
            }
            for (int block = 0; block < program.count; block++) {
                Block source = program.blocks[block];
                for (int edge = 0; edge < source.edgeCount; edge++) {
                    if (source.followers[edge] == target) {
                        incoming.join(flows[block].edgeStates[edge]);
                    }
                }
            }
        }
    }

    /** The latest execution. */
    private static final class Execution {
        final int[] values = new int[VARIABLES];
        final int[] stepBlocks = new int[MOST_STEPS];
        final int[] stepValues = new int[MOST_STEPS * VARIABLES];
        int stepCount = 0;
        private long r = 0;

        void execute(Program program, long seed, int steps) {
            r = seed;
            State initial = program.initial;
            for (int variable = 0; variable < VARIABLES; variable++) {
                values[variable] = choose(initial.low[variable], initial.high[variable]);
            }
            stepCount = 0;
            int at = 0;
            for (int step = 0; step < steps && step < MOST_STEPS; step++) {
                Block block = program.blocks[at];
                noteStep(step, at);
                perform(block);
                if (block.edgeCount == 0) {
                    return;
                }
                at = follower(block);
            }
        }

        private void noteStep(int step, int block) {
            stepBlocks[step] = block;
            System.arraycopy(values, 0, stepValues, step * VARIABLES, VARIABLES);
            stepCount = step + 1;
        }

        private void perform(Block block) {
            for (int at = 0; at < block.statementCount; at++) {
                values[block.targets[at]] = outcomeOf(block.kinds[at], block.firsts[at], block.seconds[at]);
            }
        }

        private int outcomeOf(int kind, int first, int second) {
            if (kind == SET) {
                // A SET wants no integer of a range, so it leaves r alone.
                return first;
            }
            if (kind == INPUT) {
                return choose(first, second);
            }
            return Arithmetic.outcome(kind, values[first], values[second]);
        }

        private int follower(Block block) {
            if (block.edgeCount < 2) {
                return block.followers[0];
            }
            boolean isTrue = Arithmetic.isTrue(values[block.branchX], block.relation, values[block.branchY]);
            return isTrue ? block.followers[0] : block.followers[1];
        }

        private int choose(int low, int high) {
            long size = (long) high - low + 1;
            long offset = size > 0 ? Math.floorMod(r, size) : 0;
            r = r * 6364136223846793005L + 1442695040888963407L;
            return (int) (low + offset);
        }
    }
}
