import java.util.NoSuchElementException;

/** Promises 12 to 20: the analysis and what is told of it. */
public final class AnalysisTest {
    private static final Class<IndexOutOfBoundsException> NO_INDEX = IndexOutOfBoundsException.class;
    private static final Class<IllegalStateException> NO_STATE = IllegalStateException.class;
    private static final Class<NoSuchElementException> NO_ELEMENT = NoSuchElementException.class;
    private static final int MIN = Integer.MIN_VALUE;
    private static final int MAX = Integer.MAX_VALUE;

    public static void main(String[] args) {
        countingLoop();
        backwardEdges();
        joins();
        initialRangesJoinInALoop();
        narrowedToNone();
        unreachableBlocks();
        withoutAnalysis();
        wrongIndices();
        analyzedAgain();
        sixteenBlocks();
        Check.end("AnalysisTest");
    }

    /** for (x = 0; x < 10; x++): block 1 is the head, 2 the body, 3 behind it. */
    private static RangePropagator loop() {
        RangePropagator p = new RangePropagator();
        p.addBlock();
        p.addBlock();
        p.addBlock();
        p.input(0, 1, 10, 10);
        p.input(0, 2, 1, 1);
        p.jump(0, 1);
        p.branch(1, 0, 0, 1, 2, 3);
        p.compute(2, 1, 0, 0, 2);
        p.jump(2, 1);
        return p;
    }

    private static void countingLoop() {
        RangePropagator p = loop();
        Check.equal("12 rounds", p.analyze(), 4);
        Check.yes("13 isAnalyzed", p.isAnalyzed());
        // Head: 0, 0..1, 0..1000000000. Body: 0, 0..1, 0..9 widened to 1000000000, narrowed to 9.
        Check.equal("20 visits of block 0", p.visits(0), 1);
        Check.equal("20 visits of the head", p.visits(1), 3);
        Check.equal("20 visits of the body", p.visits(2), 3);
        Check.equal("20 visits behind", p.visits(3), 1);
        Check.equal("15 head high", p.entry(1, 0, true), 1000000000);
        Check.equal("15 body low", p.entry(2, 0, false), 0);
        Check.equal("15 body high", p.entry(2, 0, true), 9);
        Check.equal("16 body low", p.exit(2, 0, false), 1);
        Check.equal("16 body high", p.exit(2, 0, true), 10);
        Check.equal("15 behind low", p.entry(3, 0, false), 10);
        Check.equal("19 constants of the head", p.constants(1), 5);
        Check.equal("19 constants behind", p.constants(3), 5);
        p.setEffort(2, 2);
        Check.equal("12 narrowings are no rounds", p.analyze(), 4);
        Check.equal("15 head high", p.entry(1, 0, true), 10);
        Check.equal("15 behind high", p.entry(3, 0, true), 10);
        Check.equal("19 constants behind", p.constants(3), 6);
        p.setEffort(10, 0);
        // The head changes from 0..0 to 0..9 without widening and then to the greatest.
        Check.equal("12 rounds with a delay", p.analyze(), 12);
        Check.equal("20 visits with a delay", p.visits(1), 11);
        Check.equal("15 head high with a delay", p.entry(1, 0, true), 1000000000);
    }

    /** An edge to a block of a lower number is seen in the next round only. */
    private static void backwardEdges() {
        RangePropagator p = new RangePropagator();
        for (int i = 0; i < 4; i++) {
            p.addBlock();
        }
        p.jump(0, 4);
        p.jump(4, 3);
        p.jump(3, 2);
        p.jump(2, 1);
        Check.equal("12 against the order", p.analyze(), 5);
        p.clear(0);
        p.clear(4);
        p.clear(3);
        p.clear(2);
        p.jump(0, 1);
        p.jump(1, 2);
        p.jump(2, 3);
        p.jump(3, 4);
        Check.equal("12 in the order", p.analyze(), 2);
    }

    private static void joins() {
        RangePropagator p = new RangePropagator();
        p.addBlock();
        p.addBlock();
        p.addBlock();
        p.setInitial(0, -10, 10);
        p.branch(0, 0, 0, 1, 1, 2);
        p.input(1, 2, 5, 6);
        p.input(1, 3, 1, 1);
        p.input(2, 2, 8, 8);
        p.input(2, 3, 1, 1);
        p.jump(1, 3);
        p.jump(2, 3);
        Check.equal("12 a diamond", p.analyze(), 2);
        Check.equal("15 join low", p.entry(3, 2, false), 5);
        Check.equal("15 join high", p.entry(3, 2, true), 8);
        Check.equal("15 join of equal ones", p.entry(3, 3, true), 1);
        Check.equal("15 refined", p.entry(1, 0, true), -1);
        Check.equal("15 refined", p.entry(2, 0, false), 0);
        Check.equal("15 joined again", p.entry(3, 0, false), -10);
        Check.equal("15 joined again", p.entry(3, 0, true), 10);
        Check.equal("19 constants", p.constants(3), 4);
        Check.equal("19 constants behind the statements", p.constants(2), 5);
        Check.equal("18 deadEdges", p.deadEdges(), 0);
        Check.no("17 isDead", p.isDead(0, 0));
    }

    private static void initialRangesJoinInALoop() {
        RangePropagator p = new RangePropagator();
        p.setInitial(0, 3, 4);
        p.input(0, 0, 1, 1);
        p.jump(0, 0);
        p.setEffort(2, 1);
        Check.equal("12 block 0 in a loop", p.analyze(), 3);
        Check.equal("15 low", p.entry(0, 0, false), 1);
        Check.equal("15 high", p.entry(0, 0, true), 4);
        Check.equal("20 visits", p.visits(0), 2);
        p.setEffort(0, 1);
        p.analyze();
        Check.equal("15 low widened and narrowed", p.entry(0, 0, false), 1);
        p.setEffort(0, 0);
        p.analyze();
        Check.equal("15 low widened", p.entry(0, 0, false), -1000000000);
        Check.equal("15 high is not", p.entry(0, 0, true), 4);
    }

    /** A block that only the widened range reaches becomes "none" when it is narrowed. */
    private static void narrowedToNone() {
        RangePropagator p = loop();
        int far = p.addBlock();
        p.input(0, 3, 50, 50);
        p.branch(3, 3, 0, 0, far, 0);
        p.jump(far, far);
        p.setEffort(0, 0);
        p.analyze();
        Check.yes("14 reached by widening", p.isReachable(far));
        Check.equal("18 deadEdges", p.deadEdges(), 0);
        p.setEffort(0, 5);
        p.analyze();
        // far leads to itself, so it keeps itself alive.
        Check.yes("14 a loop keeps itself", p.isReachable(far));
        p.clear(far);
        p.analyze();
        Check.no("14 narrowed to none", p.isReachable(far));
        Check.yes("17 the edge to it", p.isDead(3, 0));
        Check.equal("18 deadEdges", p.deadEdges(), 1);
        Check.equal("19 constants of none", p.constants(far), 0);
        Check.equal("20 visits stay", p.visits(far), 1);
        Check.refused("15 of none", p, NO_ELEMENT, () -> p.entry(far, 0, false));
        Check.refused("16 of none", p, NO_ELEMENT, () -> p.exit(far, 0, true));
    }

    private static void unreachableBlocks() {
        RangePropagator p = new RangePropagator();
        p.addBlock();
        p.addBlock();
        p.branch(1, 0, 0, 0, 1, 2);
        p.input(1, 0, 1, 1);
        p.jump(2, 1);
        Check.equal("12 rounds", p.analyze(), 2);
        Check.yes("14 block 0", p.isReachable(0));
        Check.no("14 block 1", p.isReachable(1));
        Check.yes("17 an edge of none", p.isDead(1, 0));
        Check.yes("17 an edge of none", p.isDead(1, 1));
        Check.yes("17 an edge of none", p.isDead(2, 0));
        Check.equal("18 these do not count", p.deadEdges(), 0);
        Check.equal("19 constants", p.constants(1), 0);
        Check.equal("20 visits", p.visits(1), 0);
        Check.refused("15 entry", p, NO_ELEMENT, () -> p.entry(1, 0, false));
        Check.refused("16 exit", p, NO_ELEMENT, () -> p.exit(1, 0, false));
        Check.refused("15 index first", p, NO_INDEX, () -> p.entry(1, 6, false));
        Check.refused("16 index first", p, NO_INDEX, () -> p.exit(1, -1, false));
    }

    private static void withoutAnalysis() {
        RangePropagator p = loop();
        for (int block : new int[] {0, -1, 99}) {
            Check.refused("14", p, NO_STATE, () -> p.isReachable(block));
            Check.refused("15", p, NO_STATE, () -> p.entry(block, 0, false));
            Check.refused("16", p, NO_STATE, () -> p.exit(block, 0, false));
            Check.refused("17", p, NO_STATE, () -> p.isDead(block, 0));
            Check.refused("19", p, NO_STATE, () -> p.constants(block));
            Check.refused("20", p, NO_STATE, () -> p.visits(block));
        }
        Check.refused("15", p, NO_STATE, () -> p.entry(0, 6, false));
        Check.refused("16", p, NO_STATE, () -> p.exit(0, -1, false));
        Check.refused("17", p, NO_STATE, () -> p.isDead(0, 7));
        Check.refused("18", p, NO_STATE, p::deadEdges);
    }

    private static void wrongIndices() {
        RangePropagator p = loop();
        p.analyze();
        for (int bad : new int[] {-1, 4, 15, 16, MIN, MAX}) {
            Check.refused("14 block", p, NO_INDEX, () -> p.isReachable(bad));
            Check.refused("15 block", p, NO_INDEX, () -> p.entry(bad, 0, false));
            Check.refused("16 block", p, NO_INDEX, () -> p.exit(bad, 0, false));
            Check.refused("17 block", p, NO_INDEX, () -> p.isDead(bad, 0));
            Check.refused("19 block", p, NO_INDEX, () -> p.constants(bad));
            Check.refused("20 block", p, NO_INDEX, () -> p.visits(bad));
        }
        for (int bad : new int[] {-1, 6, MIN, MAX}) {
            Check.refused("15 variable", p, NO_INDEX, () -> p.entry(0, bad, true));
            Check.refused("16 variable", p, NO_INDEX, () -> p.exit(0, bad, true));
        }
        for (int bad : new int[] {-1, 1, 2, MIN, MAX}) {
            Check.refused("17 edge of a JUMP", p, NO_INDEX, () -> p.isDead(0, bad));
        }
        for (int bad : new int[] {-1, 2, MIN, MAX}) {
            Check.refused("17 edge of a BRANCH", p, NO_INDEX, () -> p.isDead(1, bad));
        }
        for (int bad : new int[] {-1, 0, 1}) {
            Check.refused("17 edge of a RETURN", p, NO_INDEX, () -> p.isDead(3, bad));
        }
    }

    private static void analyzedAgain() {
        RangePropagator p = loop();
        p.analyze();
        long digest = p.digest();
        Check.equal("12 again", p.analyze(), 4);
        Check.equal("12 again: the same states", p.digest(), digest);
        p.clear(0);
        p.analyze();
        Check.no("12 nothing is left of the earlier one", p.isReachable(1));
        Check.equal("12 nothing is left of the earlier one", p.visits(1), 0);
        Check.equal("19 nothing is left of the earlier one", p.constants(1), 0);
        Check.yes("17 nothing is left of the earlier one", p.isDead(1, 1));
        Check.refused("15 nothing is left of the earlier one", p, NO_ELEMENT, () -> p.entry(1, 0, false));
        Check.refused("16 nothing is left of the earlier one", p, NO_ELEMENT, () -> p.exit(1, 0, false));
    }

    /** A chain of 16 blocks with 8 statements each; each has a dead edge back. */
    private static void sixteenBlocks() {
        RangePropagator p = new RangePropagator();
        p.setInitial(1, 1, 1);
        for (int block = 1; block < 16; block++) {
            p.addBlock();
        }
        for (int block = 0; block < 16; block++) {
            for (int i = 0; i < 8; i++) {
                p.compute(block, 1, 0, 0, 1);
            }
            if (block < 15) {
                p.branch(block, 0, 3, 1, block + 1, block);
            }
        }
        Check.equal("12 sixteen blocks", p.analyze(), 2);
        Check.equal("15 the last entry", p.entry(15, 0, true), 120);
        Check.equal("16 the last exit", p.exit(15, 0, false), 128);
        Check.equal("18 deadEdges", p.deadEdges(), 15);
        Check.equal("19 constants", p.constants(15), 6);
        Check.equal("20 visits", p.visits(15), 1);
        Check.equal("21 steps", p.run(5, 300), 16);
        Check.equal("24 result", p.result(0), 128);
    }
}
