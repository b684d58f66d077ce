import java.math.BigInteger;

/** Promises 21 to 24, sentence by sentence: programs are executed. */
public final class ExecutionTest {
    public static void main(String[] args) {
        Check.all("ExecutionTest",
                ExecutionTest::runStartsWithTheSeed,
                ExecutionTest::runTakesTheRest,
                ExecutionTest::runTakesTheRestOfANegative,
                ExecutionTest::runTurnsWrapAround,
                ExecutionTest::runChoosesTheVariablesInOrder,
                ExecutionTest::runChoosesAtEachInput,
                ExecutionTest::runEndsWithAReturn,
                ExecutionTest::runEndsWithTheLastStep,
                ExecutionTest::runReturnsTheSteps,
                ExecutionTest::runWrongSteps,
                ExecutionTest::enteredBlockReturns,
                ExecutionTest::enteredBlockWrongStep,
                ExecutionTest::enteredWithReturns,
                ExecutionTest::enteredWithWrongStep,
                ExecutionTest::enteredWithWrongVariable,
                ExecutionTest::resultReturns,
                ExecutionTest::resultWithoutExecution,
                ExecutionTest::resultWrongVariable,
                ExecutionTest::theLatestExecution);
    }

    private static BigInteger big(long value) {
        return BigInteger.valueOf(value);
    }

    /** r as it is after so many turns; the last 64 bits are taken of integers without a limit. */
    private static long turned(long seed, int turns) {
        long r = seed;
        for (int turn = 0; turn < turns; turn++) {
            r = big(r).multiply(big(6364136223846793005L)).add(big(1442695040888963407L)).longValue();
        }
        return r;
    }

    private static int chosen(long r, int low, int high) {
        return big(low).add(big(r).mod(big((long) high - low + 1))).intValueExact();
    }

    /** What is chosen for variable 0. */
    private static int first(long seed, int low, int high) {
        RangePropagator p = new RangePropagator();
        p.setInitial(0, low, high);
        p.run(seed, 1);
        return p.enteredWith(0, 0);
    }

    private static void runStartsWithTheSeed() {
        Check.sentence("Promise 21", "A number r is seed at first.");
        for (int seed = 0; seed < 5; seed++) {
            Check.equal("seed " + seed, first(seed, 0, 999), seed);
        }
        RangePropagator p = new RangePropagator();
        p.setInitial(0, 0, 999);
        p.run(5, 300);
        p.run(7, 1);
        Check.equal("in each execution", p.result(0), 7);
    }

    private static void runTakesTheRest() {
        Check.sentence("Promise 21", "it is low + (r mod (high - low + 1), from 0 to high - low");
        Check.equal("a range of one integer", first(17, 6, 6), 6);
        Check.equal("a range of two: low", first(0, 6, 7), 6);
        Check.equal("a range of two: high", first(1, 6, 7), 7);
        Check.equal("a range of two: low again", first(2, 6, 7), 6);
        Check.equal("one before the high end", first(9, -5, 5), 4);
        Check.equal("the high end", first(10, -5, 5), 5);
        Check.equal("behind the high end", first(11, -5, 5), -5);
        Check.equal("the widest: low", first(0, Check.LEAST, Check.GREATEST), Check.LEAST);
        Check.equal("the widest: high", first(2000000000, Check.LEAST, Check.GREATEST), Check.GREATEST);
        Check.equal("the widest: low again", first(2000000001, Check.LEAST, Check.GREATEST), Check.LEAST);
        Check.equal("the least alone", first(3, Check.LEAST, Check.LEAST), Check.LEAST);
        Check.equal("the greatest alone", first(3, Check.GREATEST, Check.GREATEST), Check.GREATEST);
        Check.equal("more than an int", first(4294967296L, 0, 9), 6);
        Check.equal("the greatest seed", first(Long.MAX_VALUE, 0, 9), 7);
    }

    private static void runTakesTheRestOfANegative() {
        Check.sentence("Promise 21", "from 0 to high - low, also if r is negative");
        Check.equal("-1: high", first(-1, -5, 5), 5);
        Check.equal("-10", first(-10, -5, 5), -4);
        Check.equal("-11: low", first(-11, -5, 5), -5);
        Check.equal("-12: high again", first(-12, -5, 5), 5);
        Check.equal("-1 of one integer", first(-1, 6, 6), 6);
        Check.equal("-1 of the widest", first(-1, Check.LEAST, Check.GREATEST), Check.GREATEST);
        Check.equal("-2000000001 of the widest", first(-2000000001, Check.LEAST, Check.GREATEST), Check.LEAST);
        Check.equal("the least seed", first(Long.MIN_VALUE, 0, 9), 2);
        Check.equal("the least seed but one", first(Long.MIN_VALUE + 1, 0, 9), 3);
    }

    private static void runTurnsWrapAround() {
        Check.sentence("Promise 21", "then r becomes r * 6364136223846793005 + 1442695040888963407, "
                + "which wraps around as a 64-bit integer");
        // Behind 0 and 1442695040888963407 come 1876011003808476466, -7280499659394350823,
        // 7401132627792533940 and 7076646890315895283.
        int[] due = {0, 963407, 476466, 649177, 533940, 895283};
        RangePropagator p = new RangePropagator();
        for (int variable = 0; variable < 6; variable++) {
            p.setInitial(variable, 0, 999999);
        }
        p.run(0, 1);
        for (int variable = 0; variable < due.length; variable++) {
            Check.equal("behind the seed 0, variable " + variable, p.result(variable), due[variable]);
        }
        for (long seed : new long[] {1, -1, Long.MAX_VALUE, Long.MIN_VALUE, 3037000500L, -1000000007}) {
            p.run(seed, 1);
            for (int variable = 0; variable < 6; variable++) {
                Check.equal("behind the seed " + seed + ", variable " + variable, p.result(variable),
                        chosen(turned(seed, variable), 0, 999999));
            }
        }
    }

    private static void runChoosesTheVariablesInOrder() {
        Check.sentence("Promise 21", "at first the integers of the variables 0 to 5 are chosen, in this order");
        int[][] ranges = {{0, 9}, {-5, 5}, {7, 7}, {Check.LEAST, Check.GREATEST}, {-1, 0}, {Check.LEAST, -1}};
        for (long seed : new long[] {0, 42, -42, Long.MIN_VALUE, Long.MAX_VALUE}) {
            RangePropagator p = new RangePropagator();
            for (int variable = 5; variable >= 0; variable--) {
                p.setInitial(variable, ranges[variable][0], ranges[variable][1]);
            }
            p.input(0, 0, 11, 11);
            p.run(seed, 1);
            for (int variable = 0; variable < 6; variable++) {
                // A range of one integer takes its turn, too.
                int due = chosen(turned(seed, variable), ranges[variable][0], ranges[variable][1]);
                Check.equal("seed " + seed + ", variable " + variable, p.enteredWith(0, variable), due);
            }
        }
    }

    private static void runChoosesAtEachInput() {
        Check.sentence("Promise 21", "Whenever an integer of a range (low to high) is wanted");
        RangePropagator p = Programs.ofBlocks(2);
        p.input(0, 0, -3, 100);
        p.input(0, 1, 6, 6);
        p.compute(0, 1, 5, 0, 1);
        p.input(0, 2, 0, 1000);
        p.jump(0, 1);
        p.input(1, 0, Check.LEAST, Check.GREATEST);
        p.jump(1, 0);
        p.run(-77, 4);
        Check.equal("the first INPUT", p.enteredWith(1, 0), chosen(turned(-77, 6), -3, 100));
        Check.equal("a SET wants none", p.enteredWith(1, 1), 6);
        Check.equal("the second INPUT", p.enteredWith(1, 2), chosen(turned(-77, 7), 0, 1000));
        Check.equal("the INPUT of block 1", p.enteredWith(2, 0), chosen(turned(-77, 8), Check.LEAST, Check.GREATEST));
        Check.equal("block 0 again", p.enteredWith(3, 0), chosen(turned(-77, 9), -3, 100));
        Check.equal("block 0 again", p.enteredWith(3, 2), chosen(turned(-77, 10), 0, 1000));
        Check.equal("block 1 again", p.result(0), chosen(turned(-77, 11), Check.LEAST, Check.GREATEST));
    }

    private static void runEndsWithAReturn() {
        Check.sentence("Promise 21", "The execution ends with a RETURN");
        RangePropagator p = Programs.upwards();
        p.input(15, 0, 4, 4);
        Check.equal("one step more than there are", p.run(0, 17), 16);
        Check.equal("as many as there are", p.run(0, 16), 16);
        Check.equal("one step less", p.run(0, 15), 15);
        Check.equal("the statements before the RETURN are not executed then", p.result(0), 0);
        p.run(0, 16);
        Check.equal("the statements before the RETURN are executed", p.result(0), 4);
        Check.equal("a RETURN at once", new RangePropagator().run(0, 300), 1);
        Check.equal("a RETURN at once in one step", new RangePropagator().run(0, 1), 1);
    }

    /** Blocks 0 and 1 lead to each other; block 0 adds 1 to variable 0, block 1 to variable 2. */
    private static RangePropagator endless() {
        RangePropagator p = Programs.ofBlocks(2);
        p.setInitial(1, 1, 1);
        p.compute(0, 1, 0, 0, 1);
        p.jump(0, 1);
        p.compute(1, 1, 2, 2, 1);
        p.jump(1, 0);
        return p;
    }

    private static void runEndsWithTheLastStep() {
        Check.sentence("Promise 21", "or when the last one of the steps is done; a step is a block that is entered");
        RangePropagator p = endless();
        for (int steps : new int[] {300, 299, 3, 2, 1}) {
            Check.equal("steps", p.run(0, steps), steps);
            Check.equal("the last step is done in block 0", p.result(0), (steps + 1) / 2);
            Check.equal("the last step is done in block 1", p.result(2), steps / 2);
        }
    }

    private static void runReturnsTheSteps() {
        Check.sentence("Promise 21", "Returns the number of steps that were done.");
        RangePropagator p = Programs.counting(3);
        // Block 0, four times the head, three times the body, the block behind.
        Check.equal("all", p.run(0, 300), 9);
        for (int steps = 1; steps <= 11; steps++) {
            Check.equal("of at most " + steps, p.run(0, steps), Math.min(steps, 9));
        }
    }

    private static void runWrongSteps() {
        Check.sentence("Promise 21", "Throws `IllegalArgumentException` if steps is not 1 to 300");
        RangePropagator p = endless();
        Check.equal("1", p.run(0, 1), 1);
        Check.equal("2", p.run(0, 2), 2);
        Check.equal("299", p.run(0, 299), 299);
        Check.equal("300", p.run(0, 300), 300);
        Check.refusedFor("steps", p, Check.ARGUMENT, s -> p.run(1, s), 0, -1, 301, 302, Check.MIN, Check.MAX);
        Check.equal("the latest execution stays", p.enteredWith(299, 0), 150);
        RangePropagator q = new RangePropagator();
        Check.refusedFor("steps of a program that returns", q, Check.ARGUMENT, s -> q.run(1, s), 0, 301);
        Check.refused("there is no execution", q, Check.INDEX, () -> q.enteredBlock(0));
    }

    private static void enteredBlockReturns() {
        Check.sentence("Promise 22", "Returns the block that was entered.");
        RangePropagator p = Programs.downwards();
        p.run(0, 300);
        Check.equal("the first step", p.enteredBlock(0), 0);
        for (int step = 1; step < 16; step++) {
            Check.equal("step " + step, p.enteredBlock(step), 16 - step);
        }
        RangePropagator q = endless();
        q.run(0, 300);
        Check.equal("step 298", q.enteredBlock(298), 0);
        Check.equal("step 299", q.enteredBlock(299), 1);
    }

    private static void enteredBlockWrongStep() {
        Check.sentence("Promise 22", "Throws `IndexOutOfBoundsException` if there is no such step");
        RangePropagator p = endless();
        Check.refusedFor("no execution, step", p, Check.INDEX, p::enteredBlock, 0, -1, 1, 299, Check.MIN, Check.MAX);
        for (int steps : new int[] {300, 299, 2, 1}) {
            p.run(0, steps);
            Check.equal("the first of " + steps, p.enteredBlock(0), 0);
            Check.equal("the last of " + steps, p.enteredBlock(steps - 1), (steps - 1) % 2);
            Check.refusedFor("of " + steps + ", step", p, Check.INDEX, p::enteredBlock,
                    -1, steps, steps + 1, Check.MIN, Check.MAX);
        }
    }

    private static void enteredWithReturns() {
        Check.sentence("Promise 23", "Returns the integer that it had when the block was entered.");
        RangePropagator p = endless();
        p.setInitial(5, -9, -9);
        p.run(0, 300);
        Check.equal("before the statements of the first step", p.enteredWith(0, 0), 0);
        Check.equal("before the statements of the second step", p.enteredWith(1, 0), 1);
        Check.equal("before the statements of the second step", p.enteredWith(1, 2), 0);
        Check.equal("the third step", p.enteredWith(2, 2), 1);
        Check.equal("step 298", p.enteredWith(298, 0), 149);
        Check.equal("step 299", p.enteredWith(299, 0), 150);
        Check.equal("step 299", p.enteredWith(299, 2), 149);
        Check.equal("the last variable of the first step", p.enteredWith(0, 5), -9);
        Check.equal("the last variable of the last step", p.enteredWith(299, 5), -9);
    }

    private static void enteredWithWrongStep() {
        Check.sentence("Promise 23", "Throws `IndexOutOfBoundsException` if there is no such step or variable");
        RangePropagator p = endless();
        Check.refusedFor("no execution, step", p, Check.INDEX, s -> p.enteredWith(s, 0),
                0, -1, 1, 299, Check.MIN, Check.MAX);
        for (int steps : new int[] {300, 299, 2, 1}) {
            p.run(0, steps);
            Check.equal("the first of " + steps, p.enteredWith(0, 1), 1);
            Check.equal("the last of " + steps, p.enteredWith(steps - 1, 0), steps / 2);
            Check.refusedFor("of " + steps + ", step", p, Check.INDEX, s -> p.enteredWith(s, 0),
                    -1, steps, steps + 1, Check.MIN, Check.MAX);
        }
    }

    private static void enteredWithWrongVariable() {
        Check.sentence("Promise 23", "Throws `IndexOutOfBoundsException` if there is no such step or variable");
        RangePropagator p = endless();
        p.run(0, 300);
        // In a row of all steps, variable 6 of a step would be variable 0 of the next one.
        for (int step : new int[] {0, 1, 298, 299}) {
            Check.refusedFor("step " + step + ", variable", p, Check.INDEX, v -> p.enteredWith(step, v),
                    -1, 6, 7, Check.MIN, Check.MAX);
        }
        Check.refusedFor("neither step nor variable", p, Check.INDEX, i -> p.enteredWith(i, i), -1, 300);
    }

    private static void resultReturns() {
        Check.sentence("Promise 24", "Returns the integer that it had at the end of the latest execution");
        RangePropagator p = new RangePropagator();
        for (int variable = 0; variable < 6; variable++) {
            p.input(0, variable, variable - 3, variable - 3);
        }
        p.run(0, 1);
        for (int variable = 0; variable < 6; variable++) {
            Check.equal("variable " + variable, p.result(variable), variable - 3);
        }
    }

    private static void resultWithoutExecution() {
        Check.sentence("Promise 24", "0 if there was none");
        RangePropagator p = new RangePropagator();
        for (int variable = 0; variable < 6; variable++) {
            Check.equal("variable " + variable, p.result(variable), 0);
            p.setInitial(variable, 5, 5);
            p.input(0, variable, 6, 6);
        }
        p.analyze();
        Check.thrownBy(() -> p.run(1, 301));
        for (int variable = 0; variable < 6; variable++) {
            Check.equal("variable " + variable + ", behind an analysis", p.result(variable), 0);
        }
    }

    private static void resultWrongVariable() {
        Check.sentence("Promise 24", "Throws `IndexOutOfBoundsException` if there is no such variable");
        RangePropagator p = endless();
        Check.refusedFor("no execution, variable", p, Check.INDEX, p::result, -1, 6, 7, Check.MIN, Check.MAX);
        p.run(0, 300);
        Check.refusedFor("variable", p, Check.INDEX, p::result, -1, 6, 7, Check.MIN, Check.MAX);
        Check.equal("the first", p.result(0), 150);
        Check.equal("the last", p.result(5), 0);
    }

    private static void theLatestExecution() {
        Check.sentence("Promises 22 to 24", "the latest execution");
        RangePropagator p = endless();
        p.run(0, 20);
        p.setInitial(0, 9, 9);
        p.clear(0);
        p.analyze();
        Check.equal("the program may change: block", p.enteredBlock(19), 1);
        Check.equal("the program may change: integer", p.enteredWith(19, 0), 10);
        Check.equal("the program may change: result", p.result(0), 10);
        Check.equal("a shorter one", p.run(0, 20), 1);
        Check.refusedFor("steps of the longer one are gone", p, Check.INDEX, p::enteredBlock, 1, 19);
        Check.refusedFor("steps of the longer one are gone", p, Check.INDEX, s -> p.enteredWith(s, 0), 1, 19);
        Check.equal("its integers", p.enteredWith(0, 0), 9);
        Check.equal("its result", p.result(0), 9);
    }
}
