/** Programs that several tests use. */
final class Programs {
    /** Ranges at the limits and one step inside of them. */
    static final int[][] GOOD_RANGES = {
        {Check.LEAST, Check.GREATEST}, {Check.LEAST, Check.LEAST}, {Check.GREATEST, Check.GREATEST},
        {Check.LEAST + 1, Check.GREATEST - 1}, {-1, 0}, {0, 0}, {5, 5}, {4, 5}
    };

    /** What is no range, by one step or by many. */
    static final int[][] BAD_RANGES = {
        {Check.LEAST - 1, 0}, {Check.LEAST - 1, Check.LEAST - 1}, {Check.LEAST - 1, Check.GREATEST},
        {0, Check.GREATEST + 1}, {Check.GREATEST + 1, Check.GREATEST + 1}, {Check.LEAST, Check.GREATEST + 1},
        {Check.GREATEST + 1, Check.GREATEST}, {Check.LEAST, Check.LEAST - 1},
        {6, 5}, {1, 0}, {0, -1}, {Check.GREATEST, Check.LEAST}, {Check.GREATEST, Check.GREATEST - 1},
        {Check.MIN, Check.MAX}, {Check.MAX, Check.MIN}, {Check.MIN, Check.MIN}, {Check.MAX, Check.MAX}
    };

    private Programs() {
    }

    /** Blocks without statements, which return. */
    static RangePropagator ofBlocks(int count) {
        RangePropagator p = new RangePropagator();
        for (int block = 1; block < count; block++) {
            p.addBlock();
        }
        return p;
    }

    /**
     * for (v0 = 0; v0 < limit; v0 += 1): block 0 sets v1 to the limit and v2 to 1, block 1 is the head,
     * block 2 the body, block 3 stands behind the loop.
     */
    static RangePropagator counting(int limit) {
        RangePropagator p = ofBlocks(4);
        p.input(0, 1, limit, limit);
        p.input(0, 2, 1, 1);
        p.jump(0, 1);
        p.branch(1, 0, 0, 1, 2, 3);
        p.compute(2, 1, 0, 0, 2);
        p.jump(2, 1);
        return p;
    }

    /** Block 0 sets v2 to 1; in block 1, which leads to itself, v0 rises and v1 sinks by 1 without an end. */
    static RangePropagator drifting() {
        RangePropagator p = ofBlocks(2);
        p.input(0, 2, 1, 1);
        p.jump(0, 1);
        p.compute(1, 1, 0, 0, 2);
        p.compute(1, 2, 1, 1, 2);
        p.jump(1, 1);
        return p;
    }

    /** Block 0 leads to 15, this to 14 and so on down to block 1: against the order in which a round looks. */
    static RangePropagator downwards() {
        RangePropagator p = ofBlocks(16);
        p.jump(0, 15);
        for (int block = 15; block > 1; block--) {
            p.jump(block, block - 1);
        }
        return p;
    }

    /** Block 0 leads to 1, this to 2 and so on up to block 15. */
    static RangePropagator upwards() {
        RangePropagator p = ofBlocks(16);
        for (int block = 0; block < 15; block++) {
            p.jump(block, block + 1);
        }
        return p;
    }

    /**
     * Analyzed with delay 0: behind the loop of counting(10) only what is widened reaches block 4; each of the blocks
     * from 4 on leads to the next one.
     */
    static RangePropagator reachedByWidening(int blocks, int narrowings) {
        RangePropagator p = counting(10);
        for (int block = 4; block < blocks; block++) {
            p.addBlock();
        }
        p.input(0, 3, 50, 50);
        p.branch(3, 3, 0, 0, 4, 0);
        for (int block = 4; block + 1 < blocks; block++) {
            p.jump(block, block + 1);
        }
        p.setEffort(0, narrowings);
        p.analyze();
        return p;
    }

    /**
     * Analyzed with delay 0 and no narrowings: block 0 leads to itself, and its INPUT makes the range of v3 that is
     * joined with -2 to 2 and widened.
     */
    static RangePropagator widened(int low, int high, int... thresholds) {
        RangePropagator p = new RangePropagator();
        p.setEffort(0, 0);
        p.setInitial(3, -2, 2);
        p.input(0, 3, low, high);
        p.jump(0, 0);
        for (int threshold : thresholds) {
            p.addThreshold(threshold);
        }
        p.analyze();
        return p;
    }

    /** Analyzed: block 0 branches on v3 and v4 with these ranges to block 1 (edge 0) or block 2 (edge 1). */
    static RangePropagator branched(int relation, int[] x, int[] y) {
        RangePropagator p = ofBlocks(3);
        p.setInitial(3, x[0], x[1]);
        p.setInitial(4, y[0], y[1]);
        p.branch(0, 3, relation, 4, 1, 2);
        p.analyze();
        return p;
    }

    static int[] range(int low, int high) {
        return new int[] {low, high};
    }
}
