import java.util.Random;

/** Random runs of 512 calls, each answer compared with the plain reference; then executions against ranges. */
public final class RandomRunsTest {
    private static final int RUNS = 400;
    private static final int CALLS = 512;

    private final Random random;
    private final RangePropagator mine = new RangePropagator();
    private final Reference due = new Reference();
    private final boolean wild;
    private final int reach;

    private RandomRunsTest(long seed) {
        random = new Random(seed);
        wild = random.nextInt(4) == 0;
        reach = new int[] {3, 12, 1000, 1000000000}[random.nextInt(4)];
    }

    public static void main(String[] args) {
        for (int run = 0; run < RUNS; run++) {
            RandomRunsTest test = new RandomRunsTest(run);
            boolean isGood = true;
            for (int call = 0; isGood && call < CALLS; call++) {
                isGood = test.oneCall(run, call);
            }
        }
        for (int run = RUNS; run < 2 * RUNS; run++) {
            new RandomRunsTest(run).rangesHoldWhatIsExecuted(run);
        }
        Check.end("RandomRunsTest");
    }

    private interface Answer {
        long get();
    }

    private boolean compare(int run, int call, String what, Answer got, Answer wanted) {
        String a = textOf(got);
        String b = textOf(wanted);
        boolean isSame = a.equals(b);
        Check.yes("run " + run + ", call " + call + " " + what + ": " + a + ", due is " + b, isSame);
        return isSame;
    }

    private static String textOf(Answer answer) {
        try {
            return Long.toString(answer.get());
        } catch (RuntimeException e) {
            return e.getClass().getSimpleName();
        }
    }

    private static long bit(boolean b) {
        return b ? 1 : 0;
    }

    /** Now and then a number that is out of bounds. */
    private int below(int bound) {
        if (random.nextInt(wild ? 12 : 150) == 0) {
            int[] odd = {-1, bound, bound + 1, Integer.MIN_VALUE, Integer.MAX_VALUE};
            return odd[random.nextInt(odd.length)];
        }
        return random.nextInt(bound);
    }

    private int block() {
        return below(due.blockCount());
    }

    private int integer() {
        switch (random.nextInt(wild ? 12 : 60)) {
            case 0:
                return -1000000000;
            case 1:
                return 1000000000;
            case 2:
                return random.nextInt();
            case 3:
                return random.nextBoolean() ? 1000000001 : -1000000001;
            default:
                return random.nextInt(2 * reach + 1) - reach;
        }
    }

    private boolean oneCall(int run, int call) {
        int group = random.nextInt(100);
        if (group < 45) {
            return change(run, call);
        }
        if (group < 52) {
            return compare(run, call, "analyze", mine::analyze, due::analyze);
        }
        if (group < 85) {
            return askAnalysis(run, call);
        }
        return askExecution(run, call);
    }

    private boolean change(int run, int call) {
        int a = integer();
        int b = random.nextInt(3) == 0 ? a : integer();
        int low = random.nextInt(30) == 0 ? a : Math.min(a, b);
        int high = Math.max(a, b);
        int block = block();
        int x = below(6);
        int y = below(6);
        int z = below(6);
        switch (random.nextInt(24)) {
            case 0:
            case 1:
            case 2:
                return compare(run, call, "addBlock", mine::addBlock, due::addBlock);
            case 3:
            case 4:
                return compare(run, call, "setInitial " + x + " " + low + " " + high,
                        () -> bit(mine.setInitial(x, low, high)), () -> bit(due.setInitial(x, low, high)));
            case 5:
            case 6:
            case 7:
                return compare(run, call, "input " + block + " " + x + " " + low + " " + high,
                        () -> mine.input(block, x, low, high), () -> due.input(block, x, low, high));
            case 8:
                return compare(run, call, "clear " + block, () -> mine.clear(block), () -> due.clear(block));
            case 9:
                int delay = below(11);
                int narrowings = below(6);
                return compare(run, call, "setEffort " + delay + " " + narrowings,
                        () -> bit(mine.setEffort(delay, narrowings)), () -> bit(due.setEffort(delay, narrowings)));
            case 10:
                return compare(run, call, "addThreshold " + a, () -> mine.addThreshold(a), () -> due.addThreshold(a));
            case 11:
            case 12:
            case 13:
                int to = block();
                return compare(run, call, "jump " + block + " " + to, () -> mine.jump(block, to), () -> due.jump(block, to));
            case 14:
            case 15:
            case 16:
            case 17:
            case 18:
                int relation = below(4);
                int p = block();
                int q = block();
                return compare(run, call, "branch " + block + " " + x + " " + relation + " " + y + " " + p + " " + q,
                        () -> mine.branch(block, x, relation, y, p, q), () -> due.branch(block, x, relation, y, p, q));
            default:
                int kind = below(6);
                return compare(run, call, "compute " + block + " " + kind + " " + x + " " + y + " " + z,
                        () -> mine.compute(block, kind, x, y, z), () -> due.compute(block, kind, x, y, z));
        }
    }

    private boolean askAnalysis(int run, int call) {
        if (!due.isAnalyzed() && random.nextInt(5) != 0) {
            return compare(run, call, "analyze", mine::analyze, due::analyze);
        }
        int block = block();
        int x = below(6);
        boolean isHigh = random.nextBoolean();
        switch (random.nextInt(9)) {
            case 0:
                return compare(run, call, "isAnalyzed", () -> bit(mine.isAnalyzed()), () -> bit(due.isAnalyzed()));
            case 1:
                return compare(run, call, "isReachable " + block,
                        () -> bit(mine.isReachable(block)), () -> bit(due.isReachable(block)));
            case 2:
                return compare(run, call, "entry " + block + " " + x + " " + isHigh,
                        () -> mine.entry(block, x, isHigh), () -> due.entry(block, x, isHigh));
            case 3:
                return compare(run, call, "exit " + block + " " + x + " " + isHigh,
                        () -> mine.exit(block, x, isHigh), () -> due.exit(block, x, isHigh));
            case 4:
                int edge = below(2);
                return compare(run, call, "isDead " + block + " " + edge,
                        () -> bit(mine.isDead(block, edge)), () -> bit(due.isDead(block, edge)));
            case 5:
                return compare(run, call, "deadEdges", mine::deadEdges, due::deadEdges);
            case 6:
                return compare(run, call, "constants " + block, () -> mine.constants(block), () -> due.constants(block));
            case 7:
                return compare(run, call, "visits " + block, () -> mine.visits(block), () -> due.visits(block));
            default:
                return compare(run, call, "digest", mine::digest, due::digest);
        }
    }

    private boolean askExecution(int run, int call) {
        int x = below(6);
        int step = random.nextInt(3) == 0 ? below(300) : below(6);
        switch (random.nextInt(6)) {
            case 0:
            case 1:
                long seed = random.nextInt(3) == 0 ? random.nextInt(9) - 4 : random.nextLong();
                int steps = 1 + below(300);
                return compare(run, call, "run " + seed + " " + steps,
                        () -> mine.run(seed, steps), () -> due.run(seed, steps));
            case 2:
                return compare(run, call, "enteredBlock " + step,
                        () -> mine.enteredBlock(step), () -> due.enteredBlock(step));
            case 3:
                return compare(run, call, "enteredWith " + step + " " + x,
                        () -> mine.enteredWith(step, x), () -> due.enteredWith(step, x));
            case 4:
                return compare(run, call, "result " + x, () -> mine.result(x), () -> due.result(x));
            default:
                return compare(run, call, "blockCount", mine::blockCount, due::blockCount);
        }
    }

    /**
     * Whatever the effort is, no execution may leave the ranges. Of the 512 calls of an object, 120 build, 2 analyze
     * and execute, 25 steps take 175, and the ranges of 16 blocks 192.
     */
    private void rangesHoldWhatIsExecuted(int run) {
        for (int call = 0; call < 120; call++) {
            change(run, call);
        }
        mine.analyze();
        int[][] ranges = new int[16][];
        int steps = mine.run(random.nextLong(), 25);
        for (int step = 0; step < steps; step++) {
            int block = mine.enteredBlock(step);
            ranges[block] = ranges[block] == null ? rangesOf(block) : ranges[block];
            for (int v = 0; v < 6; v++) {
                int value = mine.enteredWith(step, v);
                Check.yes("run " + run + ": an execution is within the range of " + v + " in block " + block,
                        ranges[block][2 * v] <= value && value <= ranges[block][2 * v + 1]);
            }
        }
    }

    private int[] rangesOf(int block) {
        int[] ends = new int[12];
        for (int end = 0; end < 12; end++) {
            ends[end] = mine.entry(block, end / 2, end % 2 == 1);
        }
        return ends;
    }
}
