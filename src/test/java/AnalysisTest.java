/** Promises 12 to 20, sentence by sentence: the analysis and what is told of it. */
public final class AnalysisTest {
    private static final int[] NO_BLOCKS_OF_FOUR = {-1, 4, 5, 15, 16, Check.MIN, Check.MAX};

    public static void main(String[] args) {
        Check.all("AnalysisTest",
                AnalysisTest::analyzeMakesTheAnalysis,
                AnalysisTest::analyzeReturnsTheRounds,
                AnalysisTest::isAnalyzedReturns,
                AnalysisTest::isReachableReturns,
                AnalysisTest::entryReturns,
                AnalysisTest::exitReturns,
                AnalysisTest::isDeadReturns,
                AnalysisTest::deadEdgesReturns,
                AnalysisTest::constantsReturns,
                AnalysisTest::visitsReturns,
                AnalysisTest::withoutAnalysis,
                AnalysisTest::wrongBlocks,
                AnalysisTest::wrongVariables,
                AnalysisTest::wrongEdges,
                AnalysisTest::entryAndExitOfNone);
    }

    /** The counting loop to 10, analyzed: the head is 0 to 1000000000, the body 0 to 9. */
    private static RangePropagator analyzed() {
        RangePropagator p = Programs.counting(10);
        p.analyze();
        return p;
    }

    /** Blocks 1 and 2 lead to each other and to no other; none leads to them. */
    private static RangePropagator partlyReachable() {
        RangePropagator p = Programs.ofBlocks(16);
        p.branch(1, 0, 0, 0, 1, 2);
        p.input(1, 0, 1, 1);
        p.jump(2, 1);
        p.jump(0, 15);
        p.analyze();
        return p;
    }

    private static void analyzeMakesTheAnalysis() {
        Check.sentence("Promise 12", "Makes the analysis.");
        RangePropagator p = Programs.counting(10);
        Check.no("before", p.isAnalyzed());
        p.analyze();
        Check.yes("behind", p.isAnalyzed());
        Check.entry("the head", p, 1, 0, 0, Check.GREATEST);
        Check.entry("the body", p, 2, 0, 0, 9);
        Check.entry("behind the loop", p, 3, 0, 10, Check.GREATEST);
        long digest = p.digest();
        p.analyze();
        Check.equal("made again it is the same", p.digest(), digest);
        p.clear(0);
        p.analyze();
        Check.no("nothing is left of the earlier one", p.isReachable(1));
        p.run(0, 300);
        Check.yes("an execution leaves it alone", p.isAnalyzed());
    }

    private static void analyzeReturnsTheRounds() {
        Check.sentence("Promise 12", "Returns the number of rounds, the last one included.");
        Check.equal("one block", new RangePropagator().analyze(), 2);
        Check.equal("16 blocks in the order", Programs.upwards().analyze(), 2);
        Check.equal("16 blocks against the order", Programs.downwards().analyze(), 16);
        RangePropagator p = Programs.counting(10);
        Check.equal("a loop", p.analyze(), 4);
        Check.equal("a loop again", p.analyze(), 4);
        p.setEffort(2, 5);
        Check.equal("narrowings are no rounds", p.analyze(), 4);
        p.setEffort(10, 0);
        Check.equal("with the greatest delay", p.analyze(), 12);
        p.setEffort(0, 0);
        Check.equal("with the least delay", p.analyze(), 3);
    }

    private static void isAnalyzedReturns() {
        Check.sentence("Promise 13", "Returns whether there is an analysis.");
        RangePropagator p = new RangePropagator();
        Check.no("a new object", p.isAnalyzed());
        p.run(0, 1);
        Check.no("an execution is none", p.isAnalyzed());
        p.analyze();
        Check.yes("analyzed", p.isAnalyzed());
        Check.yes("asking leaves it", p.isAnalyzed());
        p.analyze();
        Check.yes("analyzed again", p.isAnalyzed());
        p.clear(0);
        Check.no("the program was changed", p.isAnalyzed());
        p.analyze();
        p.setEffort(1, 1);
        Check.no("the settings were changed", p.isAnalyzed());
    }

    private static void isReachableReturns() {
        Check.sentence("Promise 14", "Returns whether its entry state is not \"none\".");
        RangePropagator p = partlyReachable();
        for (int block = 0; block < 16; block++) {
            Check.yes("block " + block, p.isReachable(block) == (block == 0 || block == 15));
        }
        RangePropagator q = analyzed();
        for (int block = 0; block < 4; block++) {
            Check.yes("block " + block + " of a loop", q.isReachable(block));
        }
    }

    /** The first and the last of 16 blocks change the first and the last variable. */
    private static RangePropagator sixteenInARow() {
        RangePropagator p = Programs.upwards();
        p.setInitial(0, Check.LEAST, -7);
        p.setInitial(5, 8, Check.GREATEST);
        p.input(0, 0, 1, 2);
        p.input(15, 5, 3, 4);
        p.input(15, 5, 5, 6);
        p.analyze();
        return p;
    }

    private static void entryReturns() {
        Check.sentence("Promise 15", "Returns the end of the range of the variable in the entry state.");
        RangePropagator p = sixteenInARow();
        Check.entry("the first block and variable", p, 0, 0, Check.LEAST, -7);
        Check.entry("the first block, the last variable", p, 0, 5, 8, Check.GREATEST);
        Check.entry("the last block, the first variable", p, 15, 0, 1, 2);
        Check.entry("before the statements of the last block", p, 15, 5, 8, Check.GREATEST);
        Check.entry("a range of one integer", p, 15, 2, 0, 0);
    }

    private static void exitReturns() {
        Check.sentence("Promise 16", "Returns the end of the range of the variable behind the statements of the block.");
        RangePropagator p = sixteenInARow();
        Check.exit("the first block and variable", p, 0, 0, 1, 2);
        Check.exit("the first block, the last variable", p, 0, 5, 8, Check.GREATEST);
        Check.exit("the last block, the first variable", p, 15, 0, 1, 2);
        Check.exit("behind all statements of the last block", p, 15, 5, 5, 6);
        Check.exit("a block without statements", p, 14, 5, 8, Check.GREATEST);
        RangePropagator q = analyzed();
        Check.exit("it is of the narrowed entry state", q, 2, 0, 1, 10);
        Check.exit("a branch does not refine it", q, 1, 0, 0, Check.GREATEST);
    }

    private static void isDeadReturns() {
        Check.sentence("Promise 17", "Returns whether the state of the edge is \"none\".");
        RangePropagator p = Programs.ofBlocks(16);
        p.branch(0, 0, 0, 1, 1, 15);
        p.branch(15, 0, 1, 1, 0, 2);
        p.branch(1, 0, 0, 1, 1, 15);
        p.jump(2, 0);
        p.analyze();
        Check.yes("0 is not less than 0", p.isDead(0, 0));
        Check.no("0 is not less than 0", p.isDead(0, 1));
        Check.no("0 is not greater than 0", p.isDead(15, 0));
        Check.yes("0 is not greater than 0", p.isDead(15, 1));
        Check.yes("edge 0 of a block that is not reachable", p.isDead(1, 0));
        Check.yes("edge 1 of a block that is not reachable", p.isDead(1, 1));
        Check.yes("a JUMP of a block that is not reachable", p.isDead(2, 0));
        RangePropagator q = analyzed();
        Check.no("a JUMP", q.isDead(0, 0));
        Check.no("edge 0", q.isDead(1, 0));
        Check.no("edge 1", q.isDead(1, 1));
    }

    private static void deadEdgesReturns() {
        Check.sentence("Promise 18", "Returns how many edges of blocks with an entry state other than \"none\" "
                + "have the state \"none\".");
        RangePropagator p = new RangePropagator();
        p.analyze();
        Check.equal("no edges", p.deadEdges(), 0);
        Check.equal("edges of blocks that are not reachable", partlyReachable().deadEdges(), 0);
        Check.equal("no dead edge", analyzed().deadEdges(), 0);
        // Each of 16 blocks has one dead edge; the last one leads to itself.
        for (int dead = 0; dead < 2; dead++) {
            RangePropagator q = Programs.ofBlocks(16);
            for (int block = 0; block < 16; block++) {
                int next = Math.min(block + 1, 15);
                q.branch(block, 0, dead == 0 ? 0 : 1, 1, dead == 0 ? 0 : next, dead == 0 ? next : 0);
            }
            q.analyze();
            Check.equal("edge " + dead + " of 16 blocks", q.deadEdges(), 16);
        }
    }

    private static void constantsReturns() {
        Check.sentence("Promise 19", "Returns how many variables have only one integer in their range behind its "
                + "statements; 0 if its entry state is \"none\".");
        for (int wide = 0; wide <= 6; wide++) {
            RangePropagator p = Programs.upwards();
            for (int variable = 0; variable < wide; variable++) {
                p.setInitial(variable, 4, 5);
            }
            p.input(0, 0, 9, 9);
            p.input(15, 0, 1, 2);
            p.analyze();
            Check.equal("the first block", p.constants(0), 6 - Math.max(0, wide - 1));
            Check.equal("a block without statements", p.constants(14), 6 - Math.max(0, wide - 1));
            Check.equal("the last block", p.constants(15), 6 - Math.max(1, wide));
        }
        Check.equal("a block that is not reachable", partlyReachable().constants(1), 0);
        Check.equal("an empty one that is not reachable", partlyReachable().constants(14), 0);
    }

    private static void visitsReturns() {
        Check.sentence("Promise 20", "Returns its visits.");
        RangePropagator p = analyzed();
        int[] due = {1, 3, 3, 1};
        for (int block = 0; block < 4; block++) {
            Check.equal("block " + block, p.visits(block), due[block]);
        }
        RangePropagator q = partlyReachable();
        for (int block = 0; block < 16; block++) {
            Check.equal("block " + block, q.visits(block), block == 0 || block == 15 ? 1 : 0);
        }
    }

    private static void withoutAnalysis() {
        RangePropagator p = Programs.counting(10);
        for (int time = 0; time < 2; time++) {
            Check.sentence("Promise 14", "Throws `IllegalStateException` if there is no analysis");
            Check.refused("isReachable", p, Check.STATE, () -> p.isReachable(0));
            Check.sentence("Promise 15", "Throws `IllegalStateException` if there is no analysis");
            Check.refused("entry", p, Check.STATE, () -> p.entry(0, 0, false));
            Check.sentence("Promise 16", "Throws `IllegalStateException` if there is no analysis");
            Check.refused("exit", p, Check.STATE, () -> p.exit(0, 0, false));
            Check.sentence("Promise 17", "Throws `IllegalStateException` if there is no analysis");
            Check.refused("isDead", p, Check.STATE, () -> p.isDead(0, 0));
            Check.sentence("Promise 18", "Throws `IllegalStateException` if there is no analysis");
            Check.refused("deadEdges", p, Check.STATE, p::deadEdges);
            Check.sentence("Promise 19", "Throws `IllegalStateException` if there is no analysis");
            Check.refused("constants", p, Check.STATE, () -> p.constants(0));
            Check.sentence("Promise 20", "Throws `IllegalStateException` if there is no analysis");
            Check.refused("visits", p, Check.STATE, () -> p.visits(0));
            // The second time there was an analysis, which a change has ended.
            p.analyze();
            answersWithAnalysis(p);
            p.setInitial(0, 0, 0);
        }
    }

    private static void answersWithAnalysis(RangePropagator p) {
        Check.yes("isReachable with an analysis", p.isReachable(0));
        Check.equal("entry with an analysis", p.entry(0, 0, false), 0);
        Check.equal("exit with an analysis", p.exit(0, 1, false), 10);
        Check.no("isDead with an analysis", p.isDead(0, 0));
        Check.equal("deadEdges with an analysis", p.deadEdges(), 0);
        Check.equal("constants with an analysis", p.constants(0), 6);
        Check.equal("visits with an analysis", p.visits(0), 1);
    }

    private static void wrongBlocks() {
        RangePropagator p = analyzed();
        RangePropagator full = partlyReachable();
        Check.sentence("Promise 14", "Throws `IndexOutOfBoundsException` if there is no such block");
        Check.refusedFor("isReachable", p, Check.INDEX, p::isReachable, NO_BLOCKS_OF_FOUR);
        Check.refusedFor("isReachable of 16", full, Check.INDEX, full::isReachable, -1, 16);
        Check.sentence("Promise 15", "Throws `IndexOutOfBoundsException` if there is no such block or variable");
        Check.refusedFor("entry", p, Check.INDEX, b -> p.entry(b, 0, false), NO_BLOCKS_OF_FOUR);
        Check.refusedFor("entry of 16", full, Check.INDEX, b -> full.entry(b, 0, false), -1, 16);
        Check.sentence("Promise 16", "Throws `IndexOutOfBoundsException` if there is no such block or variable");
        Check.refusedFor("exit", p, Check.INDEX, b -> p.exit(b, 0, false), NO_BLOCKS_OF_FOUR);
        Check.refusedFor("exit of 16", full, Check.INDEX, b -> full.exit(b, 0, false), -1, 16);
        Check.sentence("Promise 17", "Throws `IndexOutOfBoundsException` if there is no such block, or it has no such edge");
        Check.refusedFor("isDead", p, Check.INDEX, b -> p.isDead(b, 0), NO_BLOCKS_OF_FOUR);
        Check.refusedFor("isDead of 16", full, Check.INDEX, b -> full.isDead(b, 0), -1, 16);
        Check.sentence("Promise 19", "Throws `IndexOutOfBoundsException` if there is no such block");
        Check.refusedFor("constants", p, Check.INDEX, p::constants, NO_BLOCKS_OF_FOUR);
        Check.refusedFor("constants of 16", full, Check.INDEX, full::constants, -1, 16);
        Check.sentence("Promise 20", "Throws `IndexOutOfBoundsException` if there is no such block");
        Check.refusedFor("visits", p, Check.INDEX, p::visits, NO_BLOCKS_OF_FOUR);
        Check.refusedFor("visits of 16", full, Check.INDEX, full::visits, -1, 16);
    }

    private static void wrongVariables() {
        RangePropagator p = analyzed();
        Check.sentence("Promise 15", "Throws `IndexOutOfBoundsException` if there is no such block or variable");
        Check.refusedFor("low at the entry", p, Check.INDEX, v -> p.entry(0, v, false), -1, 6, Check.MIN, Check.MAX);
        Check.refusedFor("high at the entry", p, Check.INDEX, v -> p.entry(3, v, true), -1, 6, Check.MIN, Check.MAX);
        Check.sentence("Promise 16", "Throws `IndexOutOfBoundsException` if there is no such block or variable");
        Check.refusedFor("low at the exit", p, Check.INDEX, v -> p.exit(0, v, false), -1, 6, Check.MIN, Check.MAX);
        Check.refusedFor("high at the exit", p, Check.INDEX, v -> p.exit(3, v, true), -1, 6, Check.MIN, Check.MAX);
    }

    private static void wrongEdges() {
        Check.sentence("Promise 17", "Throws `IndexOutOfBoundsException` if there is no such block, or it has no such edge");
        RangePropagator p = analyzed();
        Check.refusedFor("edge of a RETURN", p, Check.INDEX, e -> p.isDead(3, e), -1, 0, 1, 2, Check.MIN, Check.MAX);
        Check.refusedFor("edge of a JUMP", p, Check.INDEX, e -> p.isDead(0, e), -1, 1, 2, Check.MIN, Check.MAX);
        Check.refusedFor("edge of a BRANCH", p, Check.INDEX, e -> p.isDead(1, e), -1, 2, 3, Check.MIN, Check.MAX);
        RangePropagator q = partlyReachable();
        Check.refusedFor("edge of a RETURN, not reachable", q, Check.INDEX, e -> q.isDead(3, e), -1, 0, 1);
        Check.refusedFor("edge of a JUMP, not reachable", q, Check.INDEX, e -> q.isDead(2, e), -1, 1, 2);
        Check.refusedFor("edge of a BRANCH, not reachable", q, Check.INDEX, e -> q.isDead(1, e), -1, 2, 3);
    }

    private static void entryAndExitOfNone() {
        RangePropagator p = partlyReachable();
        Check.sentence("Promise 15", "Throws `java` .util.NoSuchElementException if the entry state is \"none\"");
        Check.refusedFor("low at the entry", p, Check.ELEMENT, v -> p.entry(1, v, false), 0, 5);
        Check.refusedFor("high at the entry of block", p, Check.ELEMENT, b -> p.entry(b, 0, true), 1, 2, 3, 14);
        Check.equal("block 0 has an entry state", p.entry(0, 0, true), 0);
        Check.equal("block 15 has an entry state", p.entry(15, 0, true), 0);
        Check.sentence("Promise 16", "Throws `java` .util.NoSuchElementException if the entry state is \"none\"");
        Check.refusedFor("low at the exit", p, Check.ELEMENT, v -> p.exit(1, v, false), 0, 5);
        Check.refusedFor("high at the exit of block", p, Check.ELEMENT, b -> p.exit(b, 0, true), 1, 2, 3, 14);
        Check.equal("block 0 has an exit", p.exit(0, 0, true), 0);
        Check.equal("block 15 has an exit", p.exit(15, 0, true), 0);
        // Even where a SET would give the variable a range.
        RangePropagator q = analyzed();
        q.clear(0);
        q.input(3, 0, 5, 5);
        q.analyze();
        Check.refused("a SET in a block that was reachable before", q, Check.ELEMENT, () -> q.exit(3, 0, false));
        Check.refused("its entry", q, Check.ELEMENT, () -> q.entry(3, 0, false));
    }
}
