/** What statements and branches make of ranges: the section "States", seen by promises 15 to 19. */
public final class StatesTest {
    private static final int LEAST = -1000000000;
    private static final int GREATEST = 1000000000;

    public static void main(String[] args) {
        statements();
        limits();
        sameVariables();
        everyPairOfSmallRanges();
        everyRefinementOfSmallRanges();
        refinementsAtTheEdges();
        sameVariableInABranch();
        bothEdgesToOneBlock();
        Check.end("StatesTest");
    }

    /** Computes variable 2 of the ranges of variables 0 and 1 and checks it. */
    private static void computed(int kind, int[] y, int[] z, int low, int high) {
        RangePropagator p = new RangePropagator();
        p.setInitial(0, y[0], y[1]);
        p.setInitial(1, z[0], z[1]);
        p.compute(0, kind, 2, 0, 1);
        p.analyze();
        String what = "kind " + kind + " of " + y[0] + ".." + y[1] + ", " + z[0] + ".." + z[1];
        Check.equal(what + ": low", p.exit(0, 2, false), low);
        Check.equal(what + ": high", p.exit(0, 2, true), high);
        Check.equal(what + ": y is kept", p.exit(0, 0, false), y[0]);
        Check.equal(what + ": z is kept", p.exit(0, 1, true), z[1]);
        Check.equal(what + ": the entry is kept", p.entry(0, 2, true), 0);
    }

    private static int[] range(int low, int high) {
        return new int[] {low, high};
    }

    private static void statements() {
        int[] y = range(-3, 5);
        int[] z = range(2, 7);
        computed(0, y, z, -3, 5);
        computed(1, y, z, -1, 12);
        computed(2, y, z, -10, 3);
        computed(3, y, z, -21, 35);
        computed(4, y, z, -3, 5);
        computed(5, y, z, 2, 7);
        computed(3, range(-3, -2), range(-7, 4), -12, 21);
        computed(4, range(0, 9), range(4, 6), 0, 6);
        computed(5, range(0, 9), range(4, 6), 4, 9);
    }

    private static void limits() {
        int[] all = range(LEAST, GREATEST);
        for (int kind = 0; kind < 6; kind++) {
            computed(kind, all, all, LEAST, GREATEST);
        }
        int[] top = range(GREATEST - 1, GREATEST);
        int[] bottom = range(LEAST, LEAST + 1);
        computed(1, top, range(1, 1), GREATEST, GREATEST);
        computed(1, top, range(-1, 1), GREATEST - 2, GREATEST);
        computed(1, bottom, range(-1, -1), LEAST, LEAST);
        computed(2, bottom, range(-1, 1), LEAST, LEAST + 2);
        computed(2, top, bottom, GREATEST, GREATEST);
        computed(3, top, top, GREATEST, GREATEST);
        computed(3, top, bottom, LEAST, LEAST);
        computed(3, bottom, bottom, GREATEST, GREATEST);
        computed(3, range(31622, 31623), range(31622, 31623), 999950884, GREATEST);
    }

    private static void sameVariables() {
        RangePropagator p = new RangePropagator();
        p.setInitial(0, -2, 3);
        p.setInitial(1, 4, 5);
        p.compute(0, 2, 0, 0, 0);
        p.compute(0, 3, 1, 0, 1);
        p.compute(0, 0, 3, 1, 5);
        p.analyze();
        // The two operands are taken as apart: x - x is -2 - 3 to 3 - -2.
        Check.equal("x - x: low", p.exit(0, 0, false), -5);
        Check.equal("x - x: high", p.exit(0, 0, true), 5);
        Check.equal("the next statement sees it: low", p.exit(0, 1, false), -25);
        Check.equal("the next statement sees it: high", p.exit(0, 1, true), 25);
        Check.equal("COPY: low", p.exit(0, 3, false), -25);
        Check.equal("COPY: high", p.exit(0, 3, true), 25);
    }

    private static int valueOf(int kind, int y, int z) {
        int[] values = {y, y + z, y - z, y * z, y < z ? y : z, y > z ? y : z};
        return values[kind];
    }

    /** On small ranges, each range must be the hull of all outcomes. */
    private static void everyPairOfSmallRanges() {
        for (int code = 0; code < 5 * 5 * 5 * 5; code++) {
            int[] y = range(code % 5 - 2, code / 5 % 5 - 2);
            int[] z = range(code / 25 % 5 - 2, code / 125 % 5 - 2);
            for (int kind = 0; kind < 6 && y[0] <= y[1] && z[0] <= z[1]; kind++) {
                int low = 99;
                int high = -99;
                for (int a = y[0]; a <= y[1]; a++) {
                    for (int b = z[0]; b <= z[1]; b++) {
                        low = Math.min(low, valueOf(kind, a, b));
                        high = Math.max(high, valueOf(kind, a, b));
                    }
                }
                computed(kind, y, z, low, high);
            }
        }
    }

    private static boolean holds(int relation, int x, int y) {
        boolean[] truths = {x < y, x <= y, x == y, x != y};
        return truths[relation];
    }

    /** Blocks 1 and 2 are behind edge 0 and edge 1 of a branch over variables 3 and 4. */
    private static RangePropagator branched(int relation, int[] x, int[] y) {
        RangePropagator p = new RangePropagator();
        p.addBlock();
        p.addBlock();
        p.setInitial(3, x[0], x[1]);
        p.setInitial(4, y[0], y[1]);
        p.branch(0, 3, relation, 4, 1, 2);
        p.analyze();
        return p;
    }

    private static void everyRefinementOfSmallRanges() {
        for (int code = 0; code < 5 * 5 * 5 * 5; code++) {
            int[] x = range(code % 5, code / 5 % 5);
            int[] y = range(code / 25 % 5, code / 125 % 5);
            for (int relation = 0; relation < 4 && x[0] <= x[1] && y[0] <= y[1]; relation++) {
                RangePropagator p = branched(relation, x, y);
                checkEdge(p, relation, x, y, 0);
                checkEdge(p, relation, x, y, 1);
            }
        }
    }

    private static void checkEdge(RangePropagator p, int relation, int[] x, int[] y, int edge) {
        int[] keptX = range(99, -99);
        int[] keptY = range(99, -99);
        for (int a = x[0]; a <= x[1]; a++) {
            for (int b = y[0]; b <= y[1]; b++) {
                if (holds(relation, a, b) == (edge == 0)) {
                    keptX = range(Math.min(keptX[0], a), Math.max(keptX[1], a));
                    keptY = range(Math.min(keptY[0], b), Math.max(keptY[1], b));
                }
            }
        }
        String what = "relation " + relation + " of " + x[0] + ".." + x[1] + ", " + y[0] + ".." + y[1] + ", edge " + edge;
        boolean none = keptX[0] > keptX[1];
        Check.yes(what + " dead", p.isDead(0, edge) == none);
        Check.yes(what + " reachable", p.isReachable(edge + 1) != none);
        if (!none) {
            checkRefined(p, what, edge + 1, keptX, keptY);
        }
    }

    private static void checkRefined(RangePropagator p, String what, int block, int[] x, int[] y) {
        Check.yes(what + " is reachable", p.isReachable(block));
        if (p.isReachable(block)) {
            Check.equal(what + " x low", p.entry(block, 3, false), x[0]);
            Check.equal(what + " x high", p.entry(block, 3, true), x[1]);
            Check.equal(what + " y low", p.entry(block, 4, false), y[0]);
            Check.equal(what + " y high", p.entry(block, 4, true), y[1]);
        }
    }

    private static void refinementsAtTheEdges() {
        int[] all = range(LEAST, GREATEST);
        RangePropagator p = branched(0, all, all);
        checkRefined(p, "less", 1, range(LEAST, GREATEST - 1), range(LEAST + 1, GREATEST));
        checkRefined(p, "not less", 2, all, all);
        p = branched(3, all, range(LEAST, LEAST));
        checkRefined(p, "unequal", 1, range(LEAST + 1, GREATEST), range(LEAST, LEAST));
        checkRefined(p, "equal", 2, range(LEAST, LEAST), range(LEAST, LEAST));
        p = branched(2, range(GREATEST, GREATEST), all);
        checkRefined(p, "equal", 1, range(GREATEST, GREATEST), range(GREATEST, GREATEST));
        checkRefined(p, "unequal", 2, range(GREATEST, GREATEST), range(LEAST, GREATEST - 1));
        p = branched(1, range(GREATEST, GREATEST), range(LEAST, LEAST));
        Check.yes("not greater", p.isDead(0, 0));
        Check.no("greater", p.isDead(0, 1));
        p = branched(0, range(GREATEST, GREATEST), range(GREATEST, GREATEST));
        Check.yes("less than the greatest", p.isDead(0, 0));
        p = branched(0, range(LEAST, LEAST), range(LEAST, LEAST));
        Check.yes("less than the least", p.isDead(0, 0));
    }

    private static void sameVariableInABranch() {
        boolean[] trueForEqual = {false, true, true, false};
        for (int relation = 0; relation < 4; relation++) {
            RangePropagator p = new RangePropagator();
            p.addBlock();
            p.addBlock();
            p.setInitial(3, -4, 9);
            p.branch(0, 3, relation, 3, 1, 2);
            p.analyze();
            int live = trueForEqual[relation] ? 0 : 1;
            Check.no("same variable, live edge", p.isDead(0, live));
            Check.yes("same variable, dead edge", p.isDead(0, 1 - live));
            Check.equal("same variable, low", p.entry(1 + live, 3, false), -4);
            Check.equal("same variable, high", p.entry(1 + live, 3, true), 9);
            Check.equal("same variable, dead edges", p.deadEdges(), 1);
        }
    }

    private static void bothEdgesToOneBlock() {
        RangePropagator p = new RangePropagator();
        p.addBlock();
        p.setInitial(0, 0, 10);
        p.setInitial(1, 4, 4);
        p.branch(0, 0, 2, 1, 1, 1);
        p.analyze();
        Check.equal("both edges: low", p.entry(1, 0, false), 0);
        Check.equal("both edges: high", p.entry(1, 0, true), 10);
        Check.no("both edges: edge 0", p.isDead(0, 0));
        Check.no("both edges: edge 1", p.isDead(0, 1));
        Check.equal("both edges: visits", p.visits(1), 1);
        p.setInitial(0, 4, 4);
        p.analyze();
        Check.yes("one of both edges", p.isDead(0, 1));
        Check.equal("one of both edges", p.deadEdges(), 1);
        Check.yes("one of both edges", p.isReachable(1));
    }
}
