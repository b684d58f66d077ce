/** Promises 4, 5 and 8, sentence by sentence: statements are appended and removed. */
public final class StatementsTest {
    public static void main(String[] args) {
        Check.all("StatementsTest",
                StatementsTest::inputAppends,
                StatementsTest::inputOfOneIntegerIsASet,
                StatementsTest::inputReturnsTheNumber,
                StatementsTest::inputWrongIndex,
                StatementsTest::inputWrongRange,
                StatementsTest::inputAtEight,
                StatementsTest::computeAppends,
                StatementsTest::copyIgnoresZ,
                StatementsTest::computeReturnsTheNumber,
                StatementsTest::computeWrongIndex,
                StatementsTest::computeWrongKind,
                StatementsTest::computeAtEight,
                StatementsTest::clearEndsAndRemoves,
                StatementsTest::clearReturnsHowMany,
                StatementsTest::clearWrongBlock);
    }

    private static void inputAppends() {
        Check.sentence("Promise 4", "Appends an INPUT, or, if low is high, a SET.");
        RangePropagator p = Programs.ofBlocks(2);
        p.jump(0, 1);
        p.input(0, 0, -5, 5);
        p.input(0, 5, Check.LEAST, Check.GREATEST);
        p.input(0, 1, 7, 7);
        p.input(0, 2, 1, 2);
        p.input(0, 2, 3, 4);
        p.analyze();
        Check.exit("INPUT of the first variable", p, 0, 0, -5, 5);
        Check.exit("INPUT of the last variable", p, 0, 5, Check.LEAST, Check.GREATEST);
        Check.exit("SET", p, 0, 1, 7, 7);
        Check.exit("the one that was appended last counts", p, 0, 2, 3, 4);
        Check.exit("an untouched variable", p, 0, 3, 0, 0);
        Check.equal("the end of the block stays", p.run(0, 300), 2);
        Check.yes("executed", p.result(2) == 3 || p.result(2) == 4);
        Check.equal("another block has none", p.clear(1), 0);
    }

    private static void inputOfOneIntegerIsASet() {
        Check.sentence("Promise 4", "or, if low is high, a SET");
        // The seven integers that are chosen behind each other tell how often r has changed.
        int[] turns = {6, 7};
        for (int size = 1; size <= 2; size++) {
            RangePropagator p = new RangePropagator();
            p.input(0, 0, 4, 3 + size);
            p.input(0, 1, 0, 999999999);
            p.run(0, 1);
            long r = 0;
            for (int turn = 0; turn < turns[size - 1]; turn++) {
                r = r * 6364136223846793005L + 1442695040888963407L;
            }
            Check.equal("an INPUT behind one of " + size, p.result(1), Math.floorMod(r, 1000000000L));
        }
    }

    private static void inputReturnsTheNumber() {
        Check.sentence("Promise 4", "Returns the number of statements of the block.");
        RangePropagator p = Programs.ofBlocks(16);
        for (int count = 1; count <= 8; count++) {
            Check.equal("block 0", p.input(0, 0, 0, 1), count);
            Check.equal("block 15", p.input(15, 5, 3, 3), count);
        }
        Check.equal("block 1", p.compute(1, 0, 0, 0, 0), 1);
        Check.equal("block 1, behind a compute", p.input(1, 0, 0, 1), 2);
        p.clear(0);
        Check.equal("block 0, cleared", p.input(0, 0, 0, 1), 1);
    }

    private static void inputWrongIndex() {
        Check.sentence("Promise 4", "Throws `IndexOutOfBoundsException` if there is no such block or variable");
        RangePropagator p = Programs.ofBlocks(2);
        Check.equal("the last block and variable", p.input(1, 5, 0, 0), 1);
        Check.equal("the first block and variable", p.input(0, 0, 0, 0), 1);
        Check.refusedFor("block", p, Check.INDEX, b -> p.input(b, 0, 0, 0), -1, 2, 15, 16, Check.MIN, Check.MAX);
        Check.refusedFor("variable", p, Check.INDEX, x -> p.input(0, x, 0, 0), -1, 6, Check.MIN, Check.MAX);
        RangePropagator full = Programs.ofBlocks(16);
        Check.equal("block 15 of 16", full.input(15, 0, 0, 0), 1);
        Check.refusedFor("block of 16", full, Check.INDEX, b -> full.input(b, 0, 0, 0), -1, 16);
    }

    private static void inputWrongRange() {
        Check.sentence("Promise 4", "Throws `IllegalArgumentException` if low or high is not -1000000000 to 1000000000, "
                + "or low is greater than high");
        for (int[] range : Programs.GOOD_RANGES) {
            RangePropagator p = new RangePropagator();
            Check.equal("a good range", p.input(0, 0, range[0], range[1]), 1);
            p.analyze();
            Check.exit("a good range", p, 0, 0, range[0], range[1]);
        }
        RangePropagator p = new RangePropagator();
        for (int[] range : Programs.BAD_RANGES) {
            Check.refused("range " + range[0] + " to " + range[1], p, Check.ARGUMENT,
                    () -> p.input(0, 0, range[0], range[1]));
        }
        Check.equal("nothing was appended", p.clear(0), 0);
    }

    private static void inputAtEight() {
        Check.sentence("Promise 4", "Throws `IllegalStateException` if the block has 8 statements");
        RangePropagator p = Programs.ofBlocks(2);
        for (int count = 1; count <= 7; count++) {
            p.compute(0, 0, 1, 1, 1);
        }
        Check.equal("with 7 statements", p.input(0, 0, 1, 8), 8);
        p.analyze();
        Check.refused("INPUT with 8 statements", p, Check.STATE, () -> p.input(0, 0, 1, 9));
        Check.refused("SET with 8 statements", p, Check.STATE, () -> p.input(0, 0, 9, 9));
        Check.exit("the eighth is the last", p, 0, 0, 1, 8);
        Check.equal("another block has room", p.input(1, 0, 1, 9), 1);
        p.clear(0);
        Check.equal("there is room again", p.input(0, 0, 1, 9), 1);
    }

    private static void computeAppends() {
        Check.sentence("Promise 5", "Appends a COPY, ADD, SUB, MUL, MIN or MAX.");
        int[] due = {7, 12, 2, 35, 5, 7};
        for (int kind = 0; kind < 6; kind++) {
            RangePropagator p = Programs.ofBlocks(2);
            p.jump(0, 1);
            p.input(0, 1, 7, 7);
            p.input(0, 5, 5, 5);
            p.compute(0, kind, 0, 1, 5);
            p.analyze();
            Check.exit("kind " + kind, p, 0, 0, due[kind], due[kind]);
            Check.exit("y of kind " + kind, p, 0, 1, 7, 7);
            Check.exit("z of kind " + kind, p, 0, 5, 5, 5);
            Check.equal("the end of the block stays", p.run(0, 300), 2);
            Check.equal("kind " + kind + " executed", p.result(0), due[kind]);
            Check.equal("another block has none", p.clear(1), 0);
        }
    }

    private static void copyIgnoresZ() {
        Check.sentence("Promise 5", "the variable z (also for a COPY, where it has no meaning)");
        for (int z = 0; z < 6; z++) {
            RangePropagator p = new RangePropagator();
            for (int variable = 0; variable < 6; variable++) {
                p.setInitial(variable, 10 * variable, 10 * variable + 1);
            }
            p.compute(0, 0, 2, 3, z);
            p.analyze();
            Check.exit("COPY with z " + z, p, 0, 2, 30, 31);
        }
    }

    private static void computeReturnsTheNumber() {
        Check.sentence("Promise 5", "Returns the number of statements of the block.");
        RangePropagator p = Programs.ofBlocks(16);
        for (int count = 1; count <= 8; count++) {
            Check.equal("block 0", p.compute(0, count % 6, 0, 1, 2), count);
            Check.equal("block 15", p.compute(15, 0, 3, 4, 5), count);
        }
        Check.equal("block 1", p.input(1, 0, 0, 1), 1);
        Check.equal("block 1, behind an input", p.compute(1, 5, 0, 0, 0), 2);
        p.clear(15);
        Check.equal("block 15, cleared", p.compute(15, 5, 0, 0, 0), 1);
    }

    private static void computeWrongIndex() {
        Check.sentence("Promise 5", "Throws `IndexOutOfBoundsException` if there is no such block or variable");
        RangePropagator p = Programs.ofBlocks(2);
        Check.equal("the last ones", p.compute(1, 5, 5, 5, 5), 1);
        Check.equal("the first ones", p.compute(0, 0, 0, 0, 0), 1);
        Check.refusedFor("block", p, Check.INDEX, b -> p.compute(b, 0, 0, 0, 0), -1, 2, 15, 16, Check.MIN, Check.MAX);
        Check.refusedFor("x", p, Check.INDEX, x -> p.compute(0, 1, x, 0, 0), -1, 6, Check.MIN, Check.MAX);
        Check.refusedFor("y", p, Check.INDEX, y -> p.compute(0, 1, 0, y, 0), -1, 6, Check.MIN, Check.MAX);
        Check.refusedFor("z", p, Check.INDEX, z -> p.compute(0, 1, 0, 0, z), -1, 6, Check.MIN, Check.MAX);
        Check.refusedFor("z of a COPY", p, Check.INDEX, z -> p.compute(0, 0, 0, 0, z), -1, 6, Check.MIN, Check.MAX);
        RangePropagator full = Programs.ofBlocks(16);
        Check.equal("block 15 of 16", full.compute(15, 0, 0, 0, 0), 1);
        Check.refusedFor("block of 16", full, Check.INDEX, b -> full.compute(b, 0, 0, 0, 0), -1, 16);
    }

    private static void computeWrongKind() {
        Check.sentence("Promise 5", "Throws `IllegalArgumentException` if kind is not 0 to 5");
        RangePropagator p = new RangePropagator();
        Check.equal("the first kind", p.compute(0, 0, 0, 0, 0), 1);
        Check.equal("the last kind", p.compute(0, 5, 0, 0, 0), 2);
        Check.refusedFor("kind", p, Check.ARGUMENT, k -> p.compute(0, k, 0, 0, 0), -1, 6, 7, 8, Check.MIN, Check.MAX);
        Check.equal("nothing was appended", p.clear(0), 2);
    }

    private static void computeAtEight() {
        Check.sentence("Promise 5", "Throws `IllegalStateException` if the block has 8 statements");
        RangePropagator p = Programs.ofBlocks(2);
        p.setInitial(1, 1, 1);
        for (int count = 1; count <= 7; count++) {
            p.compute(0, 1, 0, 0, 1);
        }
        Check.equal("with 7 statements", p.compute(0, 1, 0, 0, 1), 8);
        p.analyze();
        for (int kind = 0; kind < 6; kind++) {
            int asked = kind;
            Check.refused("kind " + kind + " with 8 statements", p, Check.STATE, () -> p.compute(0, asked, 0, 0, 1));
        }
        Check.exit("the eighth is the last", p, 0, 0, 8, 8);
        Check.equal("another block has room", p.compute(1, 1, 0, 0, 1), 1);
        p.clear(0);
        Check.equal("there is room again", p.compute(0, 1, 0, 0, 1), 1);
    }

    private static void clearEndsAndRemoves() {
        Check.sentence("Promise 8", "Lets a block end with RETURN, and removes its statements.");
        RangePropagator p = Programs.ofBlocks(3);
        p.setInitial(3, 6, 7);
        for (int block = 0; block < 2; block++) {
            p.input(block, 0, 1, 2);
            p.input(block, 1, 1, 2);
            p.branch(block, 0, 0, 1, block + 1, block + 1);
        }
        p.clear(0);
        p.analyze();
        Check.exit("no statements", p, 0, 0, 0, 0);
        Check.exit("the initial range stays", p, 0, 3, 6, 7);
        Check.no("no edges", p.isReachable(1));
        Check.refused("no edge", p, Check.INDEX, () -> p.isDead(0, 0));
        Check.equal("it returns", p.run(0, 300), 1);
        Check.equal("no statements are executed", p.result(0), 0);
        Check.equal("a RETURN has no edges", p.jump(0, 1), 0);
        Check.equal("the number of blocks stays", p.blockCount(), 3);
        p.input(0, 0, 5, 5);
        p.analyze();
        Check.exit("a statement behind the clear", p, 0, 0, 5, 5);
        Check.exit("the second one is gone", p, 0, 1, 0, 0);
        Check.exit("another block keeps its statements", p, 1, 0, 1, 2);
        Check.equal("another block keeps its edges", p.jump(1, 2), 2);
    }

    private static void clearReturnsHowMany() {
        Check.sentence("Promise 8", "Returns how many statements it had.");
        RangePropagator p = Programs.ofBlocks(2);
        for (int count = 0; count <= 8; count++) {
            for (int statement = 0; statement < count; statement++) {
                p.input(1, 0, 0, statement);
            }
            Check.equal("with " + count + " statements", p.clear(1), count);
            Check.equal("again", p.clear(1), 0);
        }
        p.jump(0, 1);
        Check.equal("an edge is no statement", p.clear(0), 0);
    }

    private static void clearWrongBlock() {
        Check.sentence("Promise 8", "Throws `IndexOutOfBoundsException` if there is no such block");
        RangePropagator p = Programs.ofBlocks(2);
        p.input(0, 0, 0, 0);
        p.input(1, 0, 0, 0);
        Check.refusedFor("block", p, Check.INDEX, p::clear, -1, 2, 15, 16, Check.MIN, Check.MAX);
        Check.equal("the first", p.clear(0), 1);
        Check.equal("the last", p.clear(1), 1);
        RangePropagator full = Programs.ofBlocks(16);
        Check.equal("block 15 of 16", full.clear(15), 0);
        Check.refusedFor("block of 16", full, Check.INDEX, full::clear, -1, 16);
    }
}
