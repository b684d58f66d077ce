/** The section "States" of the description: the states of the edges. */
public final class BranchesTest {
    private static final int LEAST = Check.LEAST;
    private static final int GREATEST = Check.GREATEST;
    private static final int LESS = 0;
    private static final int NOT_GREATER = 1;
    private static final int EQUAL = 2;
    private static final int UNEQUAL = 3;

    public static void main(String[] args) {
        Check.all("BranchesTest",
                BranchesTest::refinesBehindTheStatements,
                BranchesTest::lessKeeps,
                BranchesTest::notGreaterKeeps,
                BranchesTest::equalKeeps,
                BranchesTest::unequalKeeps,
                BranchesTest::asSmallAsTheyCanBe,
                BranchesTest::atTheLimits,
                BranchesTest::nothingIsKept,
                BranchesTest::otherVariablesAreKept,
                BranchesTest::sameVariable,
                BranchesTest::sameVariableOfOneInteger,
                BranchesTest::bothEdgesToOneBlock,
                BranchesTest::edgeOfAJump,
                BranchesTest::edgesOfNone,
                BranchesTest::everyRefinementOfSmallRanges);
    }

    private static int[] range(int low, int high) {
        return Programs.range(low, high);
    }

    private static void refinesBehindTheStatements() {
        Check.sentence("States", "A BRANCH refines the state that is there behind the statements.");
        RangePropagator p = Programs.ofBlocks(3);
        p.setInitial(0, 100, 200);
        p.setInitial(1, 5, 5);
        p.input(0, 0, 0, 9);
        p.branch(0, 0, LESS, 1, 1, 2);
        p.analyze();
        Check.entry("edge 0", p, 1, 0, 0, 4);
        Check.entry("edge 1", p, 2, 0, 5, 9);
        Check.exit("the state behind the statements stays", p, 0, 0, 0, 9);
        Check.entry("the entry state stays", p, 0, 0, 100, 200);
    }

    /** The ranges of x and y on an edge: {x low, x high, y low, y high}, or null for "none". */
    private static void edge(RangePropagator p, String what, int edge, int... due) {
        String name = what + ", edge " + edge;
        boolean isNone = due == null;
        Check.yes(name + " is dead", p.isDead(0, edge) == isNone);
        Check.yes(name + " leads on", p.isReachable(edge + 1) != isNone);
        if (!isNone && p.isReachable(edge + 1)) {
            Check.entry(name + ", x", p, edge + 1, 3, due[0], due[1]);
            Check.entry(name + ", y", p, edge + 1, 4, due[2], due[3]);
        }
    }

    /** Both edges of a branch over x and y. */
    private static void branch(int relation, int[] x, int[] y, int[] edge0, int[] edge1) {
        RangePropagator p = Programs.branched(relation, x, y);
        String what = "relation " + relation + " of " + x[0] + ".." + x[1] + " and " + y[0] + ".." + y[1];
        edge(p, what, 0, edge0);
        edge(p, what, 1, edge1);
        Check.equal(what + ", dead edges", p.deadEdges(), (edge0 == null ? 1 : 0) + (edge1 == null ? 1 : 0));
    }

    private static int[] kept(int... ends) {
        return ends;
    }

    private static void lessKeeps() {
        Check.sentence("States", "Edge 0 keeps the integers of X for which the relation is true with at least one integer "
                + "of Y, and those of Y for which it is true with at least one of X; edge 1 does so with the opposite "
                + "relation. (less)");
        branch(LESS, range(0, 4), range(5, 9), kept(0, 4, 5, 9), null);
        branch(LESS, range(0, 5), range(5, 9), kept(0, 5, 5, 9), kept(5, 5, 5, 5));
        branch(LESS, range(0, 6), range(5, 9), kept(0, 6, 5, 9), kept(5, 6, 5, 6));
        branch(LESS, range(5, 9), range(0, 4), null, kept(5, 9, 0, 4));
        branch(LESS, range(5, 9), range(0, 5), null, kept(5, 9, 0, 5));
        branch(LESS, range(5, 9), range(0, 6), kept(5, 5, 6, 6), kept(5, 9, 0, 6));
        branch(LESS, range(5, 9), range(0, 7), kept(5, 6, 6, 7), kept(5, 9, 0, 7));
        branch(LESS, range(0, 9), range(4, 6), kept(0, 5, 4, 6), kept(4, 9, 4, 6));
        branch(LESS, range(4, 6), range(0, 9), kept(4, 6, 5, 9), kept(4, 6, 0, 6));
        branch(LESS, range(5, 5), range(5, 5), null, kept(5, 5, 5, 5));
        branch(LESS, range(4, 4), range(5, 5), kept(4, 4, 5, 5), null);
    }

    private static void notGreaterKeeps() {
        Check.sentence("States", "Edge 0 keeps the integers of X for which the relation is true with at least one integer "
                + "of Y, and those of Y for which it is true with at least one of X; edge 1 does so with the opposite "
                + "relation. (not greater)");
        branch(NOT_GREATER, range(0, 4), range(5, 9), kept(0, 4, 5, 9), null);
        branch(NOT_GREATER, range(0, 5), range(5, 9), kept(0, 5, 5, 9), null);
        branch(NOT_GREATER, range(0, 6), range(5, 9), kept(0, 6, 5, 9), kept(6, 6, 5, 5));
        branch(NOT_GREATER, range(5, 9), range(0, 4), null, kept(5, 9, 0, 4));
        branch(NOT_GREATER, range(5, 9), range(0, 5), kept(5, 5, 5, 5), kept(5, 9, 0, 5));
        branch(NOT_GREATER, range(5, 9), range(0, 6), kept(5, 6, 5, 6), kept(5, 9, 0, 6));
        branch(NOT_GREATER, range(0, 9), range(4, 6), kept(0, 6, 4, 6), kept(5, 9, 4, 6));
        branch(NOT_GREATER, range(4, 6), range(0, 9), kept(4, 6, 4, 9), kept(4, 6, 0, 5));
        branch(NOT_GREATER, range(5, 5), range(5, 5), kept(5, 5, 5, 5), null);
        branch(NOT_GREATER, range(6, 6), range(5, 5), null, kept(6, 6, 5, 5));
    }

    private static void equalKeeps() {
        Check.sentence("States", "Edge 0 keeps the integers of X for which the relation is true with at least one integer "
                + "of Y, and those of Y for which it is true with at least one of X; edge 1 does so with the opposite "
                + "relation. (equal)");
        branch(EQUAL, range(0, 4), range(5, 9), null, kept(0, 4, 5, 9));
        branch(EQUAL, range(0, 5), range(5, 9), kept(5, 5, 5, 5), kept(0, 5, 5, 9));
        branch(EQUAL, range(5, 9), range(0, 4), null, kept(5, 9, 0, 4));
        branch(EQUAL, range(5, 9), range(0, 6), kept(5, 6, 5, 6), kept(5, 9, 0, 6));
        branch(EQUAL, range(0, 9), range(4, 6), kept(4, 6, 4, 6), kept(0, 9, 4, 6));
        branch(EQUAL, range(0, 9), range(0, 0), kept(0, 0, 0, 0), kept(1, 9, 0, 0));
        branch(EQUAL, range(0, 9), range(9, 9), kept(9, 9, 9, 9), kept(0, 8, 9, 9));
        branch(EQUAL, range(5, 5), range(5, 5), kept(5, 5, 5, 5), null);
        branch(EQUAL, range(5, 5), range(6, 6), null, kept(5, 5, 6, 6));
    }

    private static void unequalKeeps() {
        Check.sentence("States", "Edge 0 keeps the integers of X for which the relation is true with at least one integer "
                + "of Y, and those of Y for which it is true with at least one of X; edge 1 does so with the opposite "
                + "relation. (not equal)");
        branch(UNEQUAL, range(5, 5), range(5, 5), null, kept(5, 5, 5, 5));
        branch(UNEQUAL, range(5, 5), range(6, 6), kept(5, 5, 6, 6), null);
        branch(UNEQUAL, range(5, 6), range(5, 6), kept(5, 6, 5, 6), kept(5, 6, 5, 6));
        branch(UNEQUAL, range(0, 4), range(5, 9), kept(0, 4, 5, 9), null);
        branch(UNEQUAL, range(0, 9), range(0, 1), kept(0, 9, 0, 1), kept(0, 1, 0, 1));
    }

    private static void asSmallAsTheyCanBe() {
        Check.sentence("States", "The ranges are as small as they can be for these integers.");
        branch(UNEQUAL, range(0, 9), range(-1, -1), kept(0, 9, -1, -1), null);
        branch(UNEQUAL, range(0, 9), range(0, 0), kept(1, 9, 0, 0), kept(0, 0, 0, 0));
        branch(UNEQUAL, range(0, 9), range(1, 1), kept(0, 9, 1, 1), kept(1, 1, 1, 1));
        branch(UNEQUAL, range(0, 9), range(8, 8), kept(0, 9, 8, 8), kept(8, 8, 8, 8));
        branch(UNEQUAL, range(0, 9), range(9, 9), kept(0, 8, 9, 9), kept(9, 9, 9, 9));
        branch(UNEQUAL, range(0, 9), range(10, 10), kept(0, 9, 10, 10), null);
        branch(UNEQUAL, range(0, 0), range(0, 9), kept(0, 0, 1, 9), kept(0, 0, 0, 0));
        branch(UNEQUAL, range(9, 9), range(0, 9), kept(9, 9, 0, 8), kept(9, 9, 9, 9));
        branch(UNEQUAL, range(5, 5), range(0, 9), kept(5, 5, 0, 9), kept(5, 5, 5, 5));
        branch(UNEQUAL, range(0, 1), range(0, 0), kept(1, 1, 0, 0), kept(0, 0, 0, 0));
        branch(UNEQUAL, range(0, 1), range(1, 1), kept(0, 0, 1, 1), kept(1, 1, 1, 1));
    }

    private static void atTheLimits() {
        Check.sentence("States", "Let X and Y be the ranges of x and y. (at -1000000000 and 1000000000)");
        int[] all = range(LEAST, GREATEST);
        int[] least = range(LEAST, LEAST);
        int[] greatest = range(GREATEST, GREATEST);
        int[] both = kept(LEAST, GREATEST, LEAST, GREATEST);
        branch(LESS, all, all, kept(LEAST, GREATEST - 1, LEAST + 1, GREATEST), both);
        branch(NOT_GREATER, all, all, both, kept(LEAST + 1, GREATEST, LEAST, GREATEST - 1));
        branch(EQUAL, all, all, both, both);
        branch(UNEQUAL, all, all, both, both);
        branch(UNEQUAL, all, least, kept(LEAST + 1, GREATEST, LEAST, LEAST), kept(LEAST, LEAST, LEAST, LEAST));
        branch(EQUAL, greatest, all, kept(GREATEST, GREATEST, GREATEST, GREATEST),
                kept(GREATEST, GREATEST, LEAST, GREATEST - 1));
        branch(LESS, greatest, all, null, kept(GREATEST, GREATEST, LEAST, GREATEST));
        branch(LESS, all, least, null, kept(LEAST, GREATEST, LEAST, LEAST));
        branch(NOT_GREATER, least, all, kept(LEAST, LEAST, LEAST, GREATEST), null);
        branch(NOT_GREATER, greatest, least, null, kept(GREATEST, GREATEST, LEAST, LEAST));
        branch(LESS, least, least, null, kept(LEAST, LEAST, LEAST, LEAST));
        branch(LESS, greatest, greatest, null, kept(GREATEST, GREATEST, GREATEST, GREATEST));
    }

    private static void nothingIsKept() {
        Check.sentence("States", "If nothing is kept, the state of the edge is \"none\".");
        int[] five = range(5, 5);
        int[] six = range(6, 6);
        for (int relation = 0; relation < 4; relation++) {
            RangePropagator same = Programs.branched(relation, five, five);
            boolean holds = relation == NOT_GREATER || relation == EQUAL;
            Check.yes("5 and 5, relation " + relation + ", edge 0", same.isDead(0, 0) != holds);
            Check.yes("5 and 5, relation " + relation + ", edge 1", same.isDead(0, 1) == holds);
            RangePropagator below = Programs.branched(relation, five, six);
            Check.yes("5 and 6, relation " + relation + ", edge 0", below.isDead(0, 0) == (relation == EQUAL));
            Check.yes("5 and 6, relation " + relation + ", edge 1", below.isDead(0, 1) != (relation == EQUAL));
            RangePropagator above = Programs.branched(relation, six, five);
            Check.yes("6 and 5, relation " + relation + ", edge 0", above.isDead(0, 0) == (relation != UNEQUAL));
            Check.yes("6 and 5, relation " + relation + ", edge 1", above.isDead(0, 1) != (relation != UNEQUAL));
        }
    }

    private static void otherVariablesAreKept() {
        Check.sentence("States", "Edge 0 keeps the integers of X ... and those of Y");
        RangePropagator p = Programs.ofBlocks(3);
        for (int variable = 0; variable < 6; variable++) {
            p.setInitial(variable, variable, variable + 4);
        }
        p.branch(0, 3, LESS, 2, 1, 2);
        p.analyze();
        for (int variable : new int[] {0, 1, 4, 5}) {
            Check.entry("another variable, edge 0", p, 1, variable, variable, variable + 4);
            Check.entry("another variable, edge 1", p, 2, variable, variable, variable + 4);
        }
        Check.entry("x, edge 0", p, 1, 3, 3, 5);
        Check.entry("y, edge 0", p, 1, 2, 4, 6);
    }

    private static final boolean[] TRUE_FOR_EQUAL = {false, true, true, false};

    /** A branch over variable v and variable v. */
    private static void sameVariable(int variable, int low, int high) {
        for (int relation = 0; relation < 4; relation++) {
            RangePropagator p = Programs.ofBlocks(3);
            p.setInitial(variable, low, high);
            p.branch(0, variable, relation, variable, 1, 2);
            p.analyze();
            int live = TRUE_FOR_EQUAL[relation] ? 0 : 1;
            String what = "relation " + relation + " of " + low + ".." + high;
            Check.no(what + ", the edge that is taken", p.isDead(0, live));
            Check.yes(what + ", the other edge", p.isDead(0, 1 - live));
            Check.entry(what, p, 1 + live, variable, low, high);
            Check.no(what + ", behind the other edge", p.isReachable(2 - live));
        }
    }

    private static void sameVariable() {
        Check.sentence("States", "If x and y are the same variable, the range is unchanged for a relation that is true for "
                + "equal integers, and the state is \"none\" otherwise.");
        sameVariable(0, -4, 9);
        sameVariable(5, 7, 8);
        sameVariable(3, LEAST, GREATEST);
    }

    private static void sameVariableOfOneInteger() {
        Check.sentence("States", "If x and y are the same variable, the range is unchanged for a relation that is true for "
                + "equal integers, and the state is \"none\" otherwise. (one integer)");
        sameVariable(0, 0, 0);
        sameVariable(5, LEAST, LEAST);
        sameVariable(2, GREATEST, GREATEST);
    }

    private static void bothEdgesToOneBlock() {
        Check.sentence("Program", "a BRANCH has the edge 0 to a and the edge 1 to b, even if a and b are the same");
        RangePropagator p = Programs.ofBlocks(2);
        p.setInitial(0, 0, 10);
        p.setInitial(1, 4, 4);
        p.branch(0, 0, LESS, 1, 1, 1);
        p.analyze();
        Check.entry("the join of both edges", p, 1, 0, 0, 10);
        Check.no("edge 0", p.isDead(0, 0));
        Check.no("edge 1", p.isDead(0, 1));
        Check.equal("visits", p.visits(1), 1);
        p.setInitial(0, 4, 10);
        p.analyze();
        Check.yes("edge 0 alone is dead", p.isDead(0, 0));
        Check.no("edge 0 alone is dead", p.isDead(0, 1));
        Check.equal("edge 0 alone is dead", p.deadEdges(), 1);
        Check.entry("edge 1 alone", p, 1, 0, 4, 10);
        p.setInitial(0, 0, 3);
        p.analyze();
        Check.no("edge 1 alone is dead", p.isDead(0, 0));
        Check.yes("edge 1 alone is dead", p.isDead(0, 1));
        Check.entry("edge 0 alone", p, 1, 0, 0, 3);
    }

    private static void edgeOfAJump() {
        Check.sentence("States", "The state of an edge of a JUMP is the one that is there behind the statements.");
        RangePropagator p = Programs.ofBlocks(2);
        p.setInitial(0, -4, 9);
        p.setInitial(1, 3, 3);
        // What the BRANCH said of x and y has no meaning for the JUMP.
        p.branch(0, 0, LESS, 1, 1, 1);
        p.input(0, 2, 5, 6);
        p.compute(0, 1, 3, 0, 2);
        p.jump(0, 1);
        p.analyze();
        for (int variable = 0; variable < 6; variable++) {
            Check.entry("variable " + variable, p, 1, variable, p.exit(0, variable, false), p.exit(0, variable, true));
        }
        Check.entry("INPUT", p, 1, 2, 5, 6);
        Check.entry("ADD", p, 1, 3, 1, 15);
        Check.no("it is not dead", p.isDead(0, 0));
    }

    private static void edgesOfNone() {
        Check.sentence("States", "If the entry state of a block is \"none\", so are the states of its edges.");
        RangePropagator p = Programs.ofBlocks(5);
        p.input(1, 0, 1, 1);
        p.jump(1, 3);
        p.input(2, 0, 1, 1);
        p.branch(2, 0, EQUAL, 0, 4, 4);
        p.analyze();
        Check.yes("the edge of a JUMP", p.isDead(1, 0));
        Check.yes("edge 0 of a BRANCH", p.isDead(2, 0));
        Check.yes("edge 1 of a BRANCH", p.isDead(2, 1));
        Check.no("behind the JUMP", p.isReachable(3));
        Check.no("behind the BRANCH", p.isReachable(4));
        p.jump(0, 1);
        p.analyze();
        Check.no("the edge of a JUMP that is reachable", p.isDead(1, 0));
        p.jump(0, 2);
        p.analyze();
        Check.yes("the edge of a JUMP that is not reachable any more", p.isDead(1, 0));
        Check.no("edge 0 of a BRANCH that is reachable", p.isDead(2, 0));
        RangePropagator q = Programs.reachedByWidening(6, 5);
        Check.yes("the edge of a JUMP whose entry state a narrowing made \"none\"", q.isDead(4, 0));
        Check.no("behind it", q.isReachable(5));
    }

    private static boolean holds(int relation, int x, int y) {
        boolean[] truths = {x < y, x <= y, x == y, x != y};
        return truths[relation];
    }

    private static void everyRefinementOfSmallRanges() {
        Check.sentence("States", "The ranges are as small as they can be for these integers. (all ranges of 0 to 4)");
        for (int code = 0; code < 5 * 5 * 5 * 5; code++) {
            int[] x = range(code % 5, code / 5 % 5);
            int[] y = range(code / 25 % 5, code / 125 % 5);
            for (int relation = 0; relation < 4 && x[0] <= x[1] && y[0] <= y[1]; relation++) {
                branch(relation, x, y, hull(relation, x, y, true), hull(relation, x, y, false));
            }
        }
    }

    private static int[] hull(int relation, int[] x, int[] y, boolean truth) {
        int[] kept = {99, -99, 99, -99};
        for (int a = x[0]; a <= x[1]; a++) {
            for (int b = y[0]; b <= y[1]; b++) {
                if (holds(relation, a, b) == truth) {
                    kept[0] = Math.min(kept[0], a);
                    kept[1] = Math.max(kept[1], a);
                    kept[2] = Math.min(kept[2], b);
                    kept[3] = Math.max(kept[3], b);
                }
            }
        }
        return kept[0] > kept[1] ? null : kept;
    }
}
