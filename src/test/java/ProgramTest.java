/** Promises 1, 2, 3 and 9, sentence by sentence: the blocks and the initial ranges. */
public final class ProgramTest {
    public static void main(String[] args) {
        Check.all("ProgramTest",
                ProgramTest::newObject,
                ProgramTest::addBlockAdds,
                ProgramTest::addBlockReturnsTheNumber,
                ProgramTest::addBlockAtSixteen,
                ProgramTest::setInitialSets,
                ProgramTest::setInitialReturnsWhetherOther,
                ProgramTest::setInitialWrongVariable,
                ProgramTest::setInitialWrongRange,
                ProgramTest::blockCountReturnsTheNumber);
    }

    private static void newObject() {
        Check.sentence("Promise 1", "Creates a propagator with one block, which has no statements and returns.");
        RangePropagator p = new RangePropagator();
        Check.equal("blockCount", p.blockCount(), 1);
        Check.no("isAnalyzed", p.isAnalyzed());
        Check.equal("statements", p.clear(0), 0);
        Check.equal("the next block", p.addBlock(), 1);
        Check.equal("edges", new RangePropagator().jump(0, 0), 0);
        RangePropagator q = new RangePropagator();
        Check.refusedFor("no other block", q, Check.INDEX, q::clear, -1, 1, 2);
        Check.equal("steps until it returns", q.run(3, 300), 1);
        q.analyze();
        for (int variable = 0; variable < 6; variable++) {
            Check.exit("no statements", q, 0, variable, 0, 0);
        }
        Check.refused("no edges", q, Check.INDEX, () -> q.isDead(0, 0));
        twoObjectsAreApart();
    }

    private static void twoObjectsAreApart() {
        RangePropagator p = new RangePropagator();
        RangePropagator q = new RangePropagator();
        p.addBlock();
        p.setInitial(0, 1, 2);
        p.input(0, 0, 3, 4);
        p.jump(0, 1);
        p.setEffort(0, 0);
        p.addThreshold(9);
        p.analyze();
        p.run(1, 1);
        Check.equal("digest of an untouched object", q.digest(), new RangePropagator().digest());
        Check.no("its initial range", q.setInitial(0, 0, 0));
        Check.no("its effort", q.setEffort(2, 1));
        Check.equal("its thresholds", q.addThreshold(5), 1);
    }

    private static void addBlockAdds() {
        Check.sentence("Promise 2", "Adds a block without statements, which returns.");
        RangePropagator p = new RangePropagator();
        for (int block = 1; block < 16; block++) {
            p.addBlock();
            Check.equal("statements of block " + block, p.clear(block), 0);
            p.input(block, 0, block, block);
            Check.equal("edges of block " + block, p.jump(block, 0), 0);
        }
        RangePropagator q = Programs.ofBlocks(2);
        q.jump(0, 1);
        Check.equal("steps until the added block returns", q.run(0, 300), 2);
    }

    private static void addBlockReturnsTheNumber() {
        Check.sentence("Promise 2", "Returns its number.");
        RangePropagator p = new RangePropagator();
        for (int block = 1; block < 16; block++) {
            Check.equal("addBlock", p.addBlock(), block);
            // A block that is cleared stays a block.
            p.clear(block);
        }
    }

    private static void addBlockAtSixteen() {
        Check.sentence("Promise 2", "Throws `IllegalStateException` if there are 16 blocks");
        RangePropagator p = Programs.ofBlocks(15);
        Check.equal("with 15 blocks", p.addBlock(), 15);
        Check.refused("with 16 blocks", p, Check.STATE, p::addBlock);
        p.clear(15);
        p.analyze();
        Check.refused("with 16 blocks again", p, Check.STATE, p::addBlock);
        Check.equal("blockCount", p.blockCount(), 16);
    }

    private static void setInitialSets() {
        Check.sentence("Promise 3", "Sets the initial range of a variable.");
        for (int variable = 0; variable < 6; variable++) {
            RangePropagator p = new RangePropagator();
            p.setInitial(variable, -7, -6);
            p.setInitial(variable, 8, 8);
            p.setInitial(variable, 3, 4);
            p.analyze();
            p.run(0, 1);
            for (int other = 0; other < 6; other++) {
                Check.entry("variable " + other, p, 0, other, other == variable ? 3 : 0, other == variable ? 4 : 0);
                boolean isWithin = other == variable ? p.result(other) == 3 || p.result(other) == 4 : p.result(other) == 0;
                Check.yes("variable " + other + " in an execution", isWithin);
            }
        }
    }

    private static void setInitialReturnsWhetherOther() {
        Check.sentence("Promise 3", "Returns whether it is another one than before.");
        RangePropagator p = new RangePropagator();
        Check.no("0 to 0 at first", p.setInitial(0, 0, 0));
        Check.yes("another high", p.setInitial(0, 0, 1));
        Check.no("the same", p.setInitial(0, 0, 1));
        Check.yes("another low", p.setInitial(0, -1, 1));
        Check.no("the same", p.setInitial(0, -1, 1));
        Check.yes("both ends", p.setInitial(0, -2, 2));
        Check.yes("back again", p.setInitial(0, 0, 0));
        Check.no("another variable stays 0 to 0", p.setInitial(5, 0, 0));
        Check.yes("the widest", p.setInitial(5, Check.LEAST, Check.GREATEST));
        Check.yes("one less at the high end", p.setInitial(5, Check.LEAST, Check.GREATEST - 1));
        Check.yes("one more at the low end", p.setInitial(5, Check.LEAST + 1, Check.GREATEST - 1));
        Check.no("the same", p.setInitial(5, Check.LEAST + 1, Check.GREATEST - 1));
    }

    private static void setInitialWrongVariable() {
        Check.sentence("Promise 3", "Throws `IndexOutOfBoundsException` if there is no such variable");
        RangePropagator p = new RangePropagator();
        Check.yes("the first", p.setInitial(0, 1, 1));
        Check.yes("the last", p.setInitial(5, 1, 1));
        Check.refusedFor("variable", p, Check.INDEX, v -> p.setInitial(v, 0, 0), -1, 6, 7, Check.MIN, Check.MAX);
    }

    private static void setInitialWrongRange() {
        Check.sentence("Promise 3", "Throws `IllegalArgumentException` if low or high is not -1000000000 to 1000000000, "
                + "or low is greater than high");
        RangePropagator p = new RangePropagator();
        for (int[] range : Programs.GOOD_RANGES) {
            p.setInitial(0, range[0], range[1]);
            p.analyze();
            Check.entry("a good range", p, 0, 0, range[0], range[1]);
        }
        for (int[] range : Programs.BAD_RANGES) {
            Check.refused("range " + range[0] + " to " + range[1], p, Check.ARGUMENT,
                    () -> p.setInitial(0, range[0], range[1]));
        }
        Check.no("the range is as before", p.setInitial(0, 4, 5));
    }

    private static void blockCountReturnsTheNumber() {
        Check.sentence("Promise 9", "Returns the number of blocks.");
        RangePropagator p = new RangePropagator();
        for (int count = 1; count <= 16; count++) {
            Check.equal("blockCount", p.blockCount(), count);
            p.clear(count - 1);
            Check.equal("blockCount behind a clear", p.blockCount(), count);
            if (count < 16) {
                p.addBlock();
            }
        }
        Check.thrownBy(p::addBlock);
        Check.equal("blockCount behind a refused block", p.blockCount(), 16);
    }
}
