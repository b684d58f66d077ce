/** The section "Analysis" of the description, sentence by sentence, behind the last round. */
public final class NarrowingsTest {
    private static final int LEAST = Check.LEAST;
    private static final int GREATEST = Check.GREATEST;

    public static void main(String[] args) {
        Check.all("NarrowingsTest",
                NarrowingsTest::asManyAsAreSet,
                NarrowingsTest::noneOfThem,
                NarrowingsTest::ascendingOrder,
                NarrowingsTest::greaterLowAndSmallerHigh,
                NarrowingsTest::entryStateBecomesNone,
                NarrowingsTest::noneGoesOn,
                NarrowingsTest::noneStaysNone,
                NarrowingsTest::aLoopKeepsItself,
                NarrowingsTest::edgesAreMadeAnew,
                NarrowingsTest::visitsAndRoundsStay);
    }

    /** A loop to 10 with its head 6 and its body 7; behind it come the blocks 5, 4, 3, 2 and 1, against the order. */
    private static RangePropagator slowly(int narrowings) {
        RangePropagator p = Programs.ofBlocks(8);
        p.input(0, 1, 10, 10);
        p.input(0, 2, 1, 1);
        p.jump(0, 6);
        p.branch(6, 0, 0, 1, 7, 5);
        p.compute(7, 1, 0, 0, 2);
        p.jump(7, 6);
        for (int block = 5; block > 1; block--) {
            p.jump(block, block - 1);
        }
        p.setEffort(0, narrowings);
        p.analyze();
        return p;
    }

    private static void asManyAsAreSet() {
        Check.sentence("Analysis", "After that, narrowings are made.");
        // The first narrowing narrows the body, the second the head, each other one a block behind the loop.
        int[] order = {7, 6, 5, 4, 3, 2, 1};
        int[] narrowed = {9, 10, 10, 10, 10, 10, 10};
        for (int narrowings = 0; narrowings <= 5; narrowings++) {
            RangePropagator p = slowly(narrowings);
            for (int at = 0; at < order.length; at++) {
                int due = at < narrowings ? narrowed[at] : GREATEST;
                Check.equal(narrowings + " narrowings, block " + order[at], p.entry(order[at], 0, true), due);
            }
        }
    }

    private static void noneOfThem() {
        Check.sentence("Analysis", "the number of narrowings, 0 to 5");
        RangePropagator p = Programs.counting(10);
        p.setEffort(2, 0);
        p.analyze();
        Check.entry("the head", p, 1, 0, 0, GREATEST);
        Check.entry("the body", p, 2, 0, 0, GREATEST);
        Check.entry("behind the loop", p, 3, 0, 10, GREATEST);
        p.setEffort(2, 1);
        p.analyze();
        Check.entry("the body with one", p, 2, 0, 0, 9);
    }

    private static void ascendingOrder() {
        Check.sentence("Analysis", "In a narrowing, the blocks are looked at in ascending order");
        // The head 2 stands behind its body 1, and the blocks behind the loop follow in the order: one is enough.
        RangePropagator p = Programs.ofBlocks(5);
        p.input(0, 1, 10, 10);
        p.input(0, 2, 1, 1);
        p.jump(0, 2);
        p.compute(1, 1, 0, 0, 2);
        p.jump(1, 2);
        p.branch(2, 0, 0, 1, 1, 3);
        p.jump(3, 4);
        p.analyze();
        Check.entry("the body", p, 1, 0, 0, 9);
        Check.entry("the head", p, 2, 0, 0, 10);
        Check.entry("behind the loop", p, 3, 0, 10, 10);
        Check.entry("one block more", p, 4, 0, 10, 10);
    }

    private static void greaterLowAndSmallerHigh() {
        Check.sentence("Analysis",
                "otherwise each low becomes the greater one of those of E and N, each high the smaller one");
        // Both variables are widened by far; v0 is 9 at most and v3 -9 at least in the body.
        RangePropagator p = Programs.ofBlocks(5);
        p.setInitial(4, -10, -10);
        p.input(0, 1, 10, 10);
        p.input(0, 2, 1, 1);
        p.jump(0, 1);
        p.branch(1, 0, 0, 1, 2, 4);
        p.branch(2, 4, 0, 3, 3, 4);
        p.compute(3, 1, 0, 0, 2);
        p.compute(3, 2, 3, 3, 2);
        p.jump(3, 1);
        p.setEffort(0, 0);
        p.analyze();
        Check.entry("v0 without narrowings", p, 1, 0, 0, GREATEST);
        Check.entry("v3 without narrowings", p, 1, 3, LEAST, 0);
        p.setEffort(0, 5);
        p.analyze();
        Check.entry("v0 of the head", p, 1, 0, 0, 10);
        Check.entry("v3 of the head", p, 1, 3, -10, 0);
        Check.entry("v0 of the body", p, 3, 0, 0, 9);
        Check.entry("v3 of the body", p, 3, 3, -9, 0);
        Check.entry("a constant", p, 3, 1, 10, 10);
        // Where N is E, nothing changes.
        Check.entry("block 0", p, 0, 4, -10, -10);
    }

    private static void entryStateBecomesNone() {
        Check.sentence("Analysis", "if E is not \"none\", the entry state becomes \"none\" if N is");
        RangePropagator p = Programs.reachedByWidening(5, 0);
        Check.yes("reached without narrowings", p.isReachable(4));
        Check.no("the edge to it", p.isDead(3, 0));
        Check.equal("dead edges", p.deadEdges(), 0);
        RangePropagator q = Programs.reachedByWidening(5, 5);
        Check.no("not reached with narrowings", q.isReachable(4));
        Check.yes("the edge to it", q.isDead(3, 0));
        Check.equal("dead edges", q.deadEdges(), 1);
        Check.equal("constants", q.constants(4), 0);
        Check.equal("its visits stay", q.visits(4), 1);
        Check.refused("its entry state", q, Check.ELEMENT, () -> q.entry(4, 0, false));
        Check.refused("behind its statements", q, Check.ELEMENT, () -> q.exit(4, 0, true));
    }

    private static void noneGoesOn() {
        Check.sentence("Analysis", "Then the states of the edges are made anew. (they become \"none\")");
        RangePropagator p = Programs.reachedByWidening(16, 0);
        Check.yes("the last block without narrowings", p.isReachable(15));
        RangePropagator q = Programs.reachedByWidening(16, 5);
        for (int block = 4; block < 16; block++) {
            Check.no("block " + block, q.isReachable(block));
        }
        for (int block = 4; block < 15; block++) {
            Check.yes("the edge of block " + block, q.isDead(block, 0));
        }
        Check.equal("edges of \"none\" do not count", q.deadEdges(), 1);
    }

    private static void noneStaysNone() {
        Check.sentence("Analysis", "if E is not \"none\"");
        RangePropagator p = Programs.ofBlocks(3);
        p.jump(1, 2);
        p.setEffort(2, 5);
        p.analyze();
        Check.no("a block that is not reachable", p.isReachable(1));
        Check.no("the block behind it", p.isReachable(2));
        Check.equal("its visits", p.visits(1), 0);
        Check.yes("its edge", p.isDead(1, 0));
    }

    private static void aLoopKeepsItself() {
        Check.sentence("Analysis", "the entry state becomes \"none\" if N is (N is not, where the block leads to itself)");
        RangePropagator p = Programs.reachedByWidening(5, 5);
        p.jump(4, 4);
        p.analyze();
        Check.yes("the edge to it is dead", p.isDead(3, 0));
        Check.yes("it leads to itself", p.isReachable(4));
        Check.no("its own edge", p.isDead(4, 0));
    }

    private static void edgesAreMadeAnew() {
        Check.sentence("Analysis", "Then the states of the edges are made anew.");
        RangePropagator p = Programs.counting(10);
        p.setEffort(2, 1);
        p.analyze();
        Check.exit("behind the statements of the body", p, 2, 0, 1, 10);
        Check.equal("the head is looked at before the body", p.entry(1, 0, true), GREATEST);
        p.setEffort(2, 2);
        p.analyze();
        Check.entry("the second narrowing sees the new edge", p, 1, 0, 0, 10);
        Check.entry("and the block behind the loop, too", p, 3, 0, 10, 10);
    }

    private static void visitsAndRoundsStay() {
        Check.sentence("Analysis", "the visits increase by 1 (in rounds, not in narrowings)");
        for (int narrowings = 0; narrowings <= 5; narrowings++) {
            RangePropagator p = Programs.counting(10);
            p.setEffort(2, narrowings);
            Check.equal("rounds with " + narrowings + " narrowings", p.analyze(), 4);
            Check.equal("visits of the head", p.visits(1), 3);
            Check.equal("visits of the body", p.visits(2), 3);
            Check.equal("visits behind the loop", p.visits(3), 1);
        }
    }
}
