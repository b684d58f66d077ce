/** Promises 21 to 24: programs are executed. */
public final class ExecutionTest {
    private static final Class<IndexOutOfBoundsException> NO_INDEX = IndexOutOfBoundsException.class;
    private static final Class<IllegalArgumentException> NO_ARGUMENT = IllegalArgumentException.class;
    private static final int MIN = Integer.MIN_VALUE;
    private static final int MAX = Integer.MAX_VALUE;
    private static final int LEAST = -1000000000;
    private static final int GREATEST = 1000000000;

    public static void main(String[] args) {
        beforeAnyExecution();
        choosesInitials();
        inputsAndSets();
        computes();
        branches();
        stepsAreLimited();
        wrongArguments();
        latestExecutionStays();
        Check.end("ExecutionTest");
    }

    private static long next(long r) {
        return r * 6364136223846793005L + 1442695040888963407L;
    }

    private static int chosen(long r, int low, int high) {
        long size = (long) high - low + 1;
        return (int) (low + ((r % size) + size) % size);
    }

    private static void beforeAnyExecution() {
        RangePropagator p = new RangePropagator();
        for (int variable = 0; variable < 6; variable++) {
            Check.equal("24 result before", p.result(variable), 0);
        }
        p.setInitial(0, 5, 5);
        Check.equal("24 result before", p.result(0), 0);
        for (int step : new int[] {0, -1, 1, 299, MIN, MAX}) {
            Check.refused("22 step", p, NO_INDEX, () -> p.enteredBlock(step));
            Check.refused("23 step", p, NO_INDEX, () -> p.enteredWith(step, 0));
        }
    }

    private static void choosesInitials() {
        int[][] ranges = {{0, 9}, {-5, 5}, {7, 7}, {LEAST, GREATEST}, {-1, 0}, {LEAST, LEAST}};
        for (long seed : new long[] {0, 1, -1, 42, Long.MIN_VALUE, Long.MAX_VALUE, -1000000007}) {
            RangePropagator p = new RangePropagator();
            for (int variable = 0; variable < 6; variable++) {
                p.setInitial(variable, ranges[variable][0], ranges[variable][1]);
            }
            Check.equal("21 run", p.run(seed, 1), 1);
            long r = seed;
            for (int variable = 0; variable < 6; variable++) {
                int due = chosen(r, ranges[variable][0], ranges[variable][1]);
                // Also an initial range of one integer takes its turn.
                r = next(r);
                Check.equal("21 initial of " + variable, p.enteredWith(0, variable), due);
                Check.equal("24 result of " + variable, p.result(variable), due);
            }
        }
    }

    private static void inputsAndSets() {
        RangePropagator p = new RangePropagator();
        p.input(0, 0, -3, 100);
        p.input(0, 1, 6, 6);
        p.input(0, 2, 0, 1000);
        p.input(0, 0, LEAST, GREATEST);
        p.run(-77, 5);
        long r = -77;
        for (int i = 0; i < 7; i++) {
            r = next(r);
        }
        Check.equal("21 SET", p.result(1), 6);
        Check.equal("21 a SET wants no integer of a range", p.result(2), chosen(r, 0, 1000));
        Check.equal("21 INPUT", p.result(0), chosen(next(r), LEAST, GREATEST));
        Check.equal("23 before the statements", p.enteredWith(0, 0), 0);
    }

    private static void computes() {
        int[][] pairs = {{3, 4}, {-7, 2}, {GREATEST, GREATEST}, {LEAST, GREATEST}, {LEAST, LEAST}, {31623, 31623}, {0, -5}};
        for (int[] pair : pairs) {
            RangePropagator p = new RangePropagator();
            p.setInitial(0, pair[0], pair[0]);
            p.setInitial(1, pair[1], pair[1]);
            p.addBlock();
            p.compute(0, 1, 2, 0, 1);
            p.compute(0, 2, 3, 0, 1);
            p.compute(0, 3, 4, 0, 1);
            p.compute(0, 4, 5, 0, 1);
            p.jump(0, 1);
            p.compute(1, 5, 5, 0, 1);
            p.compute(1, 0, 0, 1, 5);
            Check.equal("21 steps", p.run(1, 300), 2);
            long y = pair[0];
            long z = pair[1];
            Check.equal("21 ADD", p.enteredWith(1, 2), limited(y + z));
            Check.equal("21 SUB", p.enteredWith(1, 3), limited(y - z));
            Check.equal("21 MUL", p.enteredWith(1, 4), limited(y * z));
            Check.equal("21 MIN", p.enteredWith(1, 5), Math.min(y, z));
            Check.equal("21 MAX", p.result(5), Math.max(y, z));
            Check.equal("21 COPY", p.result(0), z);
        }
    }

    private static long limited(long value) {
        return Math.max(LEAST, Math.min(GREATEST, value));
    }

    private static void branches() {
        boolean[][] truths = {{true, false, false}, {true, true, false}, {false, true, false}, {true, false, true}};
        for (int relation = 0; relation < 4; relation++) {
            for (int x = 0; x < 3; x++) {
                RangePropagator p = new RangePropagator();
                p.addBlock();
                p.addBlock();
                p.setInitial(4, x, x);
                p.setInitial(5, 1, 1);
                p.branch(0, 4, relation, 5, 2, 1);
                Check.equal("21 steps", p.run(9, 300), 2);
                Check.equal("22 block 0 first", p.enteredBlock(0), 0);
                Check.equal("22 relation " + relation + " of " + x, p.enteredBlock(1), truths[relation][x] ? 2 : 1);
            }
        }
    }

    private static void stepsAreLimited() {
        RangePropagator p = new RangePropagator();
        p.addBlock();
        p.setInitial(1, 1, 1);
        p.compute(0, 1, 0, 0, 1);
        p.jump(0, 1);
        p.compute(1, 1, 2, 2, 1);
        p.jump(1, 0);
        for (int steps : new int[] {300, 299, 2, 1}) {
            Check.equal("21 run", p.run(0, steps), steps);
            Check.equal("24 the last step is done", p.result(0), (steps + 1) / 2);
            Check.equal("24 the last step is done", p.result(2), steps / 2);
            Check.equal("22 the last step", p.enteredBlock(steps - 1), (steps - 1) % 2);
            Check.equal("23 the last step", p.enteredWith(steps - 1, 0), steps / 2);
            Check.refused("22 behind it", p, NO_INDEX, () -> p.enteredBlock(steps));
            Check.refused("23 behind it", p, NO_INDEX, () -> p.enteredWith(steps, 0));
        }
    }

    private static void wrongArguments() {
        RangePropagator p = new RangePropagator();
        p.setInitial(0, 8, 8);
        p.run(4, 300);
        for (int bad : new int[] {0, -1, 301, MIN, MAX}) {
            Check.refused("21 steps", p, NO_ARGUMENT, () -> p.run(1, bad));
        }
        Check.equal("21 a refused run changes nothing", p.enteredWith(0, 0), 8);
        for (int bad : new int[] {-1, 1, 300, MIN, MAX}) {
            Check.refused("22 step", p, NO_INDEX, () -> p.enteredBlock(bad));
            Check.refused("23 step", p, NO_INDEX, () -> p.enteredWith(bad, 0));
        }
        for (int bad : new int[] {-1, 6, MIN, MAX}) {
            Check.refused("23 variable", p, NO_INDEX, () -> p.enteredWith(0, bad));
            Check.refused("24 variable", p, NO_INDEX, () -> p.result(bad));
        }
    }

    private static void latestExecutionStays() {
        RangePropagator p = new RangePropagator();
        p.setInitial(0, 8, 8);
        p.jump(0, 0);
        p.run(4, 20);
        p.setInitial(0, 9, 9);
        p.clear(0);
        p.analyze();
        Check.equal("22 it stays", p.enteredBlock(19), 0);
        Check.equal("23 it stays", p.enteredWith(19, 0), 8);
        Check.equal("24 it stays", p.result(0), 8);
        Check.equal("21 another one", p.run(4, 20), 1);
        Check.equal("24 of the latest", p.result(0), 9);
        Check.refused("22 of the latest", p, NO_INDEX, () -> p.enteredBlock(1));
    }
}
