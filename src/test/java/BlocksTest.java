/** The section "Program" of the description, sentence by sentence. */
public final class BlocksTest {
    private static final int LEAST = Check.LEAST;
    private static final int GREATEST = Check.GREATEST;
    private static final int COPY = 0;
    private static final int ADD = 1;
    private static final int SUB = 2;
    private static final int MUL = 3;
    private static final int MIN = 4;
    private static final int MAX = 5;

    public static void main(String[] args) {
        Check.all("BlocksTest",
                BlocksTest::sixVariables,
                BlocksTest::integersOfAVariable,
                BlocksTest::sixteenBlocks,
                BlocksTest::eightStatements,
                BlocksTest::statementsInTheirOrder,
                BlocksTest::thenAnEnd,
                BlocksTest::block0IsEntered,
                BlocksTest::initialRanges,
                BlocksTest::setAndInput,
                BlocksTest::copy,
                BlocksTest::tooSmallOrTooGreat,
                BlocksTest::productsTooSmallOrTooGreat,
                BlocksTest::smallerAndGreater,
                BlocksTest::returnAtFirst,
                BlocksTest::jumpToABlock,
                BlocksTest::relations,
                BlocksTest::edgeOfAJump,
                BlocksTest::edgesOfABranch);
    }

    private static void sixVariables() {
        Check.sentence("Program", "There are 6 variables, numbered from 0");
        RangePropagator p = new RangePropagator();
        for (int variable = 0; variable < 6; variable++) {
            p.setInitial(variable, 10 + variable, 10 + variable);
        }
        p.analyze();
        p.run(0, 1);
        for (int variable = 0; variable < 6; variable++) {
            Check.entry("variable " + variable, p, 0, variable, 10 + variable, 10 + variable);
            Check.equal("variable " + variable + ", executed", p.result(variable), 10 + variable);
        }
        Check.equal("all of them", p.constants(0), 6);
        Check.refusedFor("result", p, Check.INDEX, p::result, -1, 6);
        Check.refusedFor("entry", p, Check.INDEX, v -> p.entry(0, v, false), -1, 6);
        Check.refusedFor("setInitial", p, Check.INDEX, v -> p.setInitial(v, 0, 0), -1, 6);
        Check.refusedFor("input", p, Check.INDEX, v -> p.input(0, v, 0, 0), -1, 6);
    }

    private static void integersOfAVariable() {
        Check.sentence("Program", "a variable has an integer from -1000000000 to 1000000000");
        RangePropagator p = Programs.drifting();
        p.setInitial(0, GREATEST - 2, GREATEST - 2);
        p.setInitial(1, LEAST + 2, LEAST + 2);
        p.run(0, 6);
        int[] below = {2, 2, 1, 0, 0, 0};
        for (int step = 0; step < 6; step++) {
            Check.equal("rising, step " + step, p.enteredWith(step, 0), GREATEST - below[step]);
            Check.equal("sinking, step " + step, p.enteredWith(step, 1), LEAST + below[step]);
        }
        p.analyze();
        Check.entry("rising", p, 1, 0, GREATEST - 2, GREATEST);
        Check.entry("sinking", p, 1, 1, LEAST, LEAST + 2);
        Check.exit("rising", p, 1, 0, GREATEST - 1, GREATEST);
        Check.exit("sinking", p, 1, 1, LEAST, LEAST + 1);
    }

    private static void sixteenBlocks() {
        Check.sentence("Program", "There are at most 16 blocks, numbered from 0.");
        RangePropagator p = Programs.upwards();
        for (int block = 0; block < 16; block++) {
            p.input(block, 0, block + 100, block + 100);
        }
        p.analyze();
        Check.equal("all are executed", p.run(0, 300), 16);
        for (int block = 0; block < 16; block++) {
            Check.exit("block " + block, p, block, 0, block + 100, block + 100);
            Check.equal("block " + block + ", executed", p.enteredBlock(block), block);
        }
        Check.refused("a 17th", p, Check.STATE, p::addBlock);
        Check.refusedFor("block", p, Check.INDEX, p::clear, -1, 16);
    }

    private static void eightStatements() {
        Check.sentence("Program", "A block has at most 8 statements");
        for (int count = 0; count <= 8; count++) {
            RangePropagator p = new RangePropagator();
            p.setInitial(1, 1, 1);
            for (int statement = 0; statement < count; statement++) {
                p.compute(0, ADD, 0, 0, 1);
            }
            p.analyze();
            Check.exit(count + " statements", p, 0, 0, count, count);
            p.run(0, 1);
            Check.equal(count + " statements, executed", p.result(0), count);
        }
    }

    private static void statementsInTheirOrder() {
        Check.sentence("Program", "which are executed in their order");
        RangePropagator p = new RangePropagator();
        p.setInitial(5, 1, 1);
        p.input(0, 0, 5, 5);
        p.compute(0, ADD, 0, 0, 0);
        p.compute(0, MUL, 0, 0, 0);
        p.compute(0, SUB, 0, 0, 5);
        p.compute(0, COPY, 1, 0, 0);
        p.input(0, 5, 40, 40);
        p.compute(0, MIN, 2, 1, 5);
        p.compute(0, MAX, 3, 1, 2);
        int[] due = {99, 99, 40, 99, 0, 40};
        p.analyze();
        p.run(0, 1);
        for (int variable = 0; variable < 6; variable++) {
            Check.exit("variable " + variable, p, 0, variable, due[variable], due[variable]);
            Check.equal("variable " + variable + ", executed", p.result(variable), due[variable]);
        }
    }

    private static void thenAnEnd() {
        Check.sentence("Program", "and then an end");
        RangePropagator p = Programs.ofBlocks(3);
        p.branch(0, 0, 2, 1, 1, 2);
        for (int statement = 1; statement <= 8; statement++) {
            p.input(0, 0, statement, statement);
        }
        p.setInitial(1, 8, 8);
        p.analyze();
        Check.yes("the eighth statement comes before the end", p.isDead(0, 1));
        p.run(0, 300);
        Check.equal("the eighth statement comes before the end", p.enteredBlock(1), 1);
    }

    private static void block0IsEntered() {
        Check.sentence("Program", "At the beginning of the program, block 0 is entered");
        RangePropagator p = Programs.ofBlocks(16);
        for (int block = 1; block < 16; block++) {
            p.jump(block, 0);
        }
        p.analyze();
        Check.yes("block 0", p.isReachable(0));
        for (int block = 1; block < 16; block++) {
            Check.no("block " + block, p.isReachable(block));
        }
        Check.equal("executed", p.run(99, 300), 1);
        Check.equal("executed", p.enteredBlock(0), 0);
    }

    private static void initialRanges() {
        Check.sentence("Program", "each variable has an integer from its initial range (0 to 0 at first)");
        RangePropagator p = new RangePropagator();
        p.analyze();
        p.run(-1, 1);
        for (int variable = 0; variable < 6; variable++) {
            Check.entry("at first", p, 0, variable, 0, 0);
            Check.equal("at first, executed", p.enteredWith(0, variable), 0);
        }
        p.setInitial(0, 5, 6);
        p.analyze();
        Check.entry("set", p, 0, 0, 5, 6);
        boolean[] found = new boolean[2];
        for (int seed = 0; seed < 4; seed++) {
            p.run(seed, 1);
            int got = p.enteredWith(0, 0);
            Check.yes("within its range", got == 5 || got == 6);
            found[got == 5 ? 0 : 1] = true;
        }
        Check.yes("both ends are had", found[0] && found[1]);
    }

    private static void setAndInput() {
        Check.sentence("Program", "SET: x becomes a constant. INPUT: x becomes some integer of a range.");
        RangePropagator p = new RangePropagator();
        p.setInitial(0, 50, 60);
        p.input(0, 0, LEAST, LEAST);
        p.input(0, 1, GREATEST, GREATEST);
        p.input(0, 2, -1, 0);
        p.input(0, 3, LEAST, LEAST + 1);
        p.input(0, 4, GREATEST - 1, GREATEST);
        for (int seed = -9; seed < 9; seed++) {
            p.run(seed, 1);
            Check.equal("SET to the least", p.result(0), LEAST);
            Check.equal("SET to the greatest", p.result(1), GREATEST);
            Check.yes("INPUT", p.result(2) == -1 || p.result(2) == 0);
            Check.yes("INPUT at the least", p.result(3) == LEAST || p.result(3) == LEAST + 1);
            Check.yes("INPUT at the greatest", p.result(4) == GREATEST || p.result(4) == GREATEST - 1);
        }
    }

    /** The integer that x becomes, as it is executed and as it is analyzed. */
    private static void becomes(int kind, int y, int z, int due) {
        RangePropagator p = new RangePropagator();
        p.setInitial(4, y, y);
        p.setInitial(1, z, z);
        p.compute(0, kind, 3, 4, 1);
        p.run(0, 1);
        String what = "kind " + kind + " of " + y + " and " + z;
        Check.equal(what, p.result(3), due);
        p.analyze();
        Check.exit(what, p, 0, 3, due, due);
    }

    private static void copy() {
        Check.sentence("Program", "COPY (kind 0): x becomes y.");
        becomes(COPY, 7, 8, 7);
        becomes(COPY, LEAST, 0, LEAST);
        becomes(COPY, GREATEST, 0, GREATEST);
    }

    private static void tooSmallOrTooGreat() {
        Check.sentence("Program", "ADD (1), SUB (2), MUL (3): x becomes y + z, y - z, y * z; a result that is less than "
                + "-1000000000 becomes this, one that is greater than 1000000000 becomes that. (ADD, SUB)");
        becomes(ADD, 7, -8, -1);
        becomes(SUB, 7, -8, 15);
        for (int step = -1; step <= 1; step++) {
            int atTop = Math.min(GREATEST, GREATEST + step);
            int atBottom = Math.max(LEAST, LEAST + step);
            becomes(ADD, 999999990, 10 + step, atTop);
            becomes(ADD, 10 + step, 999999990, atTop);
            becomes(SUB, 999999990, -10 - step, atTop);
            becomes(SUB, 10 + step, -999999990, atTop);
            becomes(ADD, -999999990, -10 + step, atBottom);
            becomes(ADD, -10 + step, -999999990, atBottom);
            becomes(SUB, -999999990, 10 - step, atBottom);
            becomes(SUB, -10 + step, 999999990, atBottom);
        }
        becomes(ADD, GREATEST, GREATEST, GREATEST);
        becomes(ADD, LEAST, LEAST, LEAST);
        becomes(ADD, LEAST, GREATEST, 0);
        becomes(SUB, GREATEST, LEAST, GREATEST);
        becomes(SUB, LEAST, GREATEST, LEAST);
        becomes(SUB, LEAST, LEAST, 0);
        becomes(SUB, 0, LEAST, GREATEST);
    }

    private static void productsTooSmallOrTooGreat() {
        Check.sentence("Program", "ADD (1), SUB (2), MUL (3): x becomes y + z, y - z, y * z; a result that is less than "
                + "-1000000000 becomes this, one that is greater than 1000000000 becomes that. (MUL)");
        becomes(MUL, 7, -8, -56);
        int[][] products = {
            // 1 below the greatest, the greatest, 1 above it; then others near to it.
            {333333333, 3, 999999999}, {500000000, 2, GREATEST}, {142857143, 7, GREATEST},
            {499999999, 2, 999999998}, {500000001, 2, GREATEST}, {GREATEST, 1, GREATEST},
            {31622, 31623, 999982506}, {31623, 31623, GREATEST},
            // These wrap around in 32 bits.
            {46341, 46341, GREATEST}, {65536, 65536, GREATEST}, {65537, 65537, GREATEST}, {GREATEST, 3, GREATEST},
            {GREATEST, GREATEST, GREATEST}
        };
        for (int[] product : products) {
            becomes(MUL, product[0], product[1], product[2]);
            becomes(MUL, product[1], product[0], product[2]);
            becomes(MUL, -product[0], product[1], -product[2]);
            becomes(MUL, product[0], -product[1], -product[2]);
            becomes(MUL, -product[0], -product[1], product[2]);
        }
        becomes(MUL, GREATEST, 0, 0);
        becomes(MUL, 0, LEAST, 0);
    }

    private static void smallerAndGreater() {
        Check.sentence("Program", "MIN (4), MAX (5): x becomes the smaller or the greater one of y and z.");
        int[][] pairs = {{4, 5}, {5, 5}, {-5, -4}, {-1, 1}, {LEAST, GREATEST}, {LEAST, LEAST + 1}, {0, GREATEST}};
        for (int[] pair : pairs) {
            becomes(MIN, pair[0], pair[1], pair[0]);
            becomes(MIN, pair[1], pair[0], pair[0]);
            becomes(MAX, pair[0], pair[1], pair[1]);
            becomes(MAX, pair[1], pair[0], pair[1]);
        }
    }

    private static void returnAtFirst() {
        Check.sentence("Program", "The end of a block is RETURN (at first)");
        for (int block = 0; block < 16; block++) {
            RangePropagator p = Programs.ofBlocks(16);
            if (block > 0) {
                p.jump(0, block);
            }
            Check.equal("steps to the end of block " + block, p.run(0, 300), block == 0 ? 1 : 2);
            Check.equal("edges of block " + block, p.jump(block, 0), 0);
        }
    }

    private static void jumpToABlock() {
        Check.sentence("Program", "JUMP to a block");
        for (int to = 0; to < 16; to++) {
            RangePropagator p = Programs.ofBlocks(16);
            p.jump(0, to);
            p.run(0, 2);
            Check.equal("entered", p.enteredBlock(1), to);
            p.analyze();
            for (int block = 1; block < 16; block++) {
                Check.yes("block " + block, p.isReachable(block) == (block == to));
            }
        }
    }

    private static void relations() {
        Check.sentence("Program",
                "a relation (0 x less than y, 1 x not greater than y, 2 x equal to y, 3 x not equal to y), "
                + "the block a is entered if the relation is true, otherwise the block b");
        boolean[][] truths = {{true, false, false}, {true, true, false}, {false, true, false}, {true, false, true}};
        for (int relation = 0; relation < 4; relation++) {
            for (int y : new int[] {LEAST + 1, -1, 0, 1, GREATEST - 1}) {
                for (int step = -1; step <= 1; step++) {
                    int x = y + step;
                    RangePropagator p = Programs.branched(relation, Programs.range(x, x), Programs.range(y, y));
                    boolean holds = truths[relation][step + 1];
                    String what = "relation " + relation + " of " + x + " and " + y;
                    Check.equal(what + ": steps", p.run(0, 300), 2);
                    Check.equal(what + ": entered", p.enteredBlock(1), holds ? 1 : 2);
                    Check.yes(what + ": edge 0", p.isDead(0, 0) != holds);
                    Check.yes(what + ": edge 1", p.isDead(0, 1) == holds);
                }
            }
        }
    }

    private static void edgeOfAJump() {
        Check.sentence("Program", "A JUMP has the edge 0");
        RangePropagator p = Programs.ofBlocks(2);
        p.branch(0, 0, 0, 0, 1, 1);
        p.jump(0, 1);
        p.analyze();
        Check.no("edge 0", p.isDead(0, 0));
        Check.refusedFor("edge", p, Check.INDEX, e -> p.isDead(0, e), -1, 1, 2);
        Check.equal("the number of edges", p.jump(0, 1), 1);
    }

    private static void edgesOfABranch() {
        Check.sentence("Program", "a BRANCH has the edge 0 to a and the edge 1 to b, even if a and b are the same");
        for (int b = 1; b <= 2; b++) {
            RangePropagator p = Programs.ofBlocks(3);
            // Variable 0 is not less than itself: edge 1 alone is taken.
            p.branch(0, 0, 0, 0, 1, b);
            p.analyze();
            Check.yes("edge 0", p.isDead(0, 0));
            Check.no("edge 1", p.isDead(0, 1));
            Check.equal("one of two edges is dead", p.deadEdges(), 1);
            Check.yes("the block b", p.isReachable(b));
            Check.refusedFor("edge", p, Check.INDEX, e -> p.isDead(0, e), -1, 2);
            Check.equal("entered", p.run(0, 300) * 10 + p.enteredBlock(1), 20 + b);
            Check.equal("the number of edges", p.jump(0, 1), 2);
        }
    }
}
