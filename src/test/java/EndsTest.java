/** Promises 6 and 7, sentence by sentence: how blocks end. */
public final class EndsTest {
    public static void main(String[] args) {
        Check.all("EndsTest",
                EndsTest::jumpLets,
                EndsTest::jumpReturnsTheEdgesBefore,
                EndsTest::jumpWrongBlock,
                EndsTest::branchLets,
                EndsTest::branchReturnsTheEdgesBefore,
                EndsTest::branchWrongIndex,
                EndsTest::branchWrongRelation);
    }

    private static void jumpLets() {
        Check.sentence("Promise 6", "Lets a block end with a JUMP.");
        RangePropagator p = Programs.ofBlocks(16);
        p.input(0, 0, 3, 3);
        p.branch(0, 0, 0, 0, 1, 2);
        p.jump(0, 14);
        p.jump(0, 15);
        p.jump(15, 0);
        p.analyze();
        Check.yes("the last block is behind the first", p.isReachable(15));
        Check.no("the earlier JUMP is gone", p.isReachable(14));
        Check.no("the earlier BRANCH is gone", p.isReachable(1) || p.isReachable(2));
        Check.no("edge 0", p.isDead(0, 0));
        Check.refused("edge 1 is gone", p, Check.INDEX, () -> p.isDead(0, 1));
        Check.exit("the statements stay", p, 0, 0, 3, 3);
        Check.equal("executed without an end", p.run(0, 9), 9);
        Check.equal("the first block again", p.enteredBlock(2), 0);
        RangePropagator q = new RangePropagator();
        q.jump(0, 0);
        Check.equal("a JUMP to the block itself", q.run(0, 9), 9);
    }

    private static void jumpReturnsTheEdgesBefore() {
        Check.sentence("Promise 6", "Returns the number of edges that the block had before.");
        RangePropagator p = Programs.ofBlocks(2);
        Check.equal("of a RETURN", p.jump(0, 1), 0);
        Check.equal("of a JUMP", p.jump(0, 0), 1);
        p.branch(0, 0, 0, 1, 0, 1);
        Check.equal("of a BRANCH", p.jump(0, 1), 2);
        p.branch(0, 0, 0, 1, 1, 1);
        Check.equal("of a BRANCH to one block", p.jump(0, 1), 2);
        p.clear(0);
        Check.equal("of a cleared block", p.jump(0, 1), 0);
        Check.equal("of another block", p.jump(1, 1), 0);
    }

    private static void jumpWrongBlock() {
        Check.sentence("Promise 6", "Throws `IndexOutOfBoundsException` if there is no such block");
        RangePropagator p = Programs.ofBlocks(2);
        Check.equal("the last to the first", p.jump(1, 0), 0);
        Check.equal("the first to the last", p.jump(0, 1), 0);
        p.analyze();
        Check.refusedFor("block", p, Check.INDEX, b -> p.jump(b, 0), -1, 2, 15, 16, Check.MIN, Check.MAX);
        Check.refusedFor("a", p, Check.INDEX, a -> p.jump(0, a), -1, 2, 15, 16, Check.MIN, Check.MAX);
        RangePropagator full = Programs.ofBlocks(16);
        Check.equal("block 15 of 16", full.jump(15, 15), 0);
        Check.refusedFor("block of 16", full, Check.INDEX, b -> full.jump(b, 0), -1, 16);
        Check.refusedFor("a of 16", full, Check.INDEX, a -> full.jump(0, a), -1, 16);
    }

    private static void branchLets() {
        Check.sentence("Promise 7", "Lets a block end with a BRANCH.");
        RangePropagator p = Programs.ofBlocks(16);
        p.input(0, 0, 3, 3);
        p.jump(0, 1);
        p.branch(0, 0, 0, 5, 2, 3);
        // v0 is 3 and v5 is 0, so the relation is true and block 15 is entered.
        p.branch(0, 5, 1, 0, 15, 14);
        p.branch(15, 0, 2, 5, 14, 0);
        p.analyze();
        Check.yes("block a", p.isReachable(15));
        Check.no("the earlier ends are gone", p.isReachable(1) || p.isReachable(2) || p.isReachable(3));
        Check.no("edge 0", p.isDead(0, 0));
        Check.yes("edge 1", p.isDead(0, 1));
        Check.exit("the statements stay", p, 0, 0, 3, 3);
        Check.equal("executed without an end", p.run(0, 9), 9);
        Check.equal("a if the relation is true", p.enteredBlock(1), 15);
        Check.equal("b otherwise", p.enteredBlock(2), 0);
    }

    private static void branchReturnsTheEdgesBefore() {
        Check.sentence("Promise 7", "Returns the number of edges that the block had before.");
        RangePropagator p = Programs.ofBlocks(2);
        Check.equal("of a RETURN", p.branch(0, 0, 0, 1, 0, 1), 0);
        Check.equal("of a BRANCH", p.branch(0, 0, 1, 1, 1, 1), 2);
        Check.equal("of a BRANCH to one block", p.branch(0, 0, 1, 1, 0, 1), 2);
        p.jump(0, 1);
        Check.equal("of a JUMP", p.branch(0, 5, 3, 5, 1, 0), 1);
        p.clear(0);
        Check.equal("of a cleared block", p.branch(0, 5, 3, 5, 1, 0), 0);
        Check.equal("of another block", p.branch(1, 5, 3, 5, 1, 0), 0);
    }

    private static void branchWrongIndex() {
        Check.sentence("Promise 7", "Throws `IndexOutOfBoundsException` if there is no such block or variable");
        RangePropagator p = Programs.ofBlocks(2);
        Check.equal("the last ones", p.branch(1, 5, 0, 5, 1, 1), 0);
        Check.equal("the first ones", p.branch(0, 0, 0, 0, 0, 0), 0);
        Check.refusedFor("block", p, Check.INDEX, i -> p.branch(i, 0, 0, 0, 0, 0), -1, 2, 16, Check.MIN, Check.MAX);
        Check.refusedFor("a", p, Check.INDEX, i -> p.branch(0, 0, 0, 0, i, 0), -1, 2, 16, Check.MIN, Check.MAX);
        Check.refusedFor("b", p, Check.INDEX, i -> p.branch(0, 0, 0, 0, 0, i), -1, 2, 16, Check.MIN, Check.MAX);
        Check.refusedFor("x", p, Check.INDEX, i -> p.branch(0, i, 0, 0, 0, 0), -1, 6, Check.MIN, Check.MAX);
        Check.refusedFor("y", p, Check.INDEX, i -> p.branch(0, 0, 0, i, 0, 0), -1, 6, Check.MIN, Check.MAX);
        RangePropagator full = Programs.ofBlocks(16);
        Check.equal("block 15 of 16", full.branch(15, 0, 0, 0, 15, 15), 0);
        Check.refusedFor("block of 16", full, Check.INDEX, i -> full.branch(i, 0, 0, 0, 0, 0), -1, 16);
        Check.refusedFor("a of 16", full, Check.INDEX, i -> full.branch(0, 0, 0, 0, i, 0), -1, 16);
        Check.refusedFor("b of 16", full, Check.INDEX, i -> full.branch(0, 0, 0, 0, 0, i), -1, 16);
    }

    private static void branchWrongRelation() {
        Check.sentence("Promise 7", "Throws `IllegalArgumentException` if relation is not 0 to 3");
        RangePropagator p = new RangePropagator();
        Check.equal("the first relation", p.branch(0, 0, 0, 1, 0, 0), 0);
        Check.equal("the last relation", p.branch(0, 0, 3, 1, 0, 0), 2);
        Check.refusedFor("relation", p, Check.ARGUMENT, i -> p.branch(0, 0, i, 1, 0, 0), -1, 4, 5, Check.MIN, Check.MAX);
        p.clear(0);
        Check.refusedFor("relation", p, Check.ARGUMENT, i -> p.branch(0, 0, i, 1, 0, 0), -1, 4);
        Check.equal("the block still returns", p.jump(0, 0), 0);
    }
}
