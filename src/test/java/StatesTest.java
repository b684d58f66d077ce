/** The section "States" of the description: what joins and statements make of ranges. */
public final class StatesTest {
    private static final int LEAST = Check.LEAST;
    private static final int GREATEST = Check.GREATEST;

    public static void main(String[] args) {
        Check.all("StatesTest",
                StatesTest::noneOrARangeForEachVariable,
                StatesTest::joinHasSmallerLowAndGreaterHigh,
                StatesTest::joinOfMoreThanTwo,
                StatesTest::joinWithNone,
                StatesTest::joinOfNones,
                StatesTest::setAndInput,
                StatesTest::copy,
                StatesTest::add,
                StatesTest::sub,
                StatesTest::mul,
                StatesTest::minAndMax,
                StatesTest::tooSmallOrTooGreat,
                StatesTest::onlyXHasAnotherRange,
                StatesTest::sameVariables,
                StatesTest::everyPairOfSmallRanges);
    }

    private static int[] range(int low, int high) {
        return Programs.range(low, high);
    }

    private static void noneOrARangeForEachVariable() {
        Check.sentence("States", "A state is \"none\", or it has a range (low to high) for each variable.");
        RangePropagator p = Programs.ofBlocks(2);
        for (int variable = 0; variable < 6; variable++) {
            p.setInitial(variable, variable - 9, variable + 9);
        }
        p.analyze();
        for (int variable = 0; variable < 6; variable++) {
            int asked = variable;
            Check.entry("variable " + variable, p, 0, variable, variable - 9, variable + 9);
            Check.refused("variable " + variable + " of none", p, Check.ELEMENT, () -> p.entry(1, asked, false));
        }
    }

    /** Variable 2 has the one range behind block 1 and the other behind block 2; both lead to block 3. */
    private static RangePropagator joined(int[] one, int[] other) {
        RangePropagator p = Programs.ofBlocks(4);
        p.setInitial(0, -1, 1);
        p.branch(0, 0, 0, 1, 1, 2);
        p.input(1, 2, one[0], one[1]);
        p.input(2, 2, other[0], other[1]);
        p.jump(1, 3);
        p.jump(2, 3);
        p.analyze();
        return p;
    }

    private static void joinHasSmallerLowAndGreaterHigh() {
        Check.sentence("States", "The join of two states has, for each variable, the smaller low and the greater high");
        int[][] cases = {
            // low and high of the one, of the other, of the join
            {3, 5, 3, 5, 3, 5}, {3, 5, 4, 4, 3, 5}, {3, 5, 4, 7, 3, 7}, {3, 5, 6, 7, 3, 7}, {3, 5, 9, 9, 3, 9},
            {3, 5, 3, 6, 3, 6}, {3, 5, 2, 5, 2, 5}, {3, 3, 3, 3, 3, 3}, {3, 3, 4, 4, 3, 4},
            {LEAST, LEAST, GREATEST, GREATEST, LEAST, GREATEST}, {LEAST, GREATEST, 0, 0, LEAST, GREATEST},
            {-5, -3, 3, 5, -5, 5}
        };
        for (int[] c : cases) {
            String what = c[0] + ".." + c[1] + " and " + c[2] + ".." + c[3];
            Check.entry(what, joined(range(c[0], c[1]), range(c[2], c[3])), 3, 2, c[4], c[5]);
            Check.entry(what + " swapped", joined(range(c[2], c[3]), range(c[0], c[1])), 3, 2, c[4], c[5]);
        }
        RangePropagator p = joined(range(1, 2), range(8, 9));
        Check.entry("each variable: the refined one", p, 3, 0, -1, 1);
        Check.entry("each variable: an untouched one", p, 3, 5, 0, 0);
    }

    private static void joinOfMoreThanTwo() {
        Check.sentence("States", "The join of two states has, for each variable, the smaller low and the greater high");
        // Blocks 1 to 14 have the integers 1 to 14 for variable 1; all of them may lead to block 15.
        RangePropagator p = Programs.ofBlocks(16);
        p.setInitial(0, -1, 1);
        for (int block = 1; block < 15; block++) {
            p.input(block, 1, block, block);
            p.branch(block, 0, 2, 2, 15, Math.min(block + 1, 14));
        }
        p.jump(0, 1);
        p.setEffort(10, 0);
        p.analyze();
        Check.entry("14 edges", p, 15, 1, 1, 14);
        Check.entry("14 edges, refined to 0", p, 15, 0, 0, 0);
    }

    private static void joinWithNone() {
        Check.sentence("States", "the join of a state and \"none\" is the state");
        for (int dead = 0; dead < 2; dead++) {
            RangePropagator p = Programs.ofBlocks(4);
            // 0 is not less than 0: with relation 0 block 1 is not reachable, with relation 1 block 2.
            p.branch(0, 0, dead, 1, 1, 2);
            p.input(1, 2, 5, 6);
            p.input(2, 2, 8, 9);
            p.jump(1, 3);
            p.jump(2, 3);
            p.analyze();
            Check.entry("only edge " + (1 - dead) + " is taken", p, 3, 2, dead == 0 ? 8 : 5, dead == 0 ? 9 : 6);
        }
        RangePropagator q = Programs.ofBlocks(2);
        q.setInitial(0, 4, 7);
        q.jump(1, 0);
        q.input(1, 0, 99, 99);
        q.analyze();
        Check.entry("the initial ranges and \"none\"", q, 0, 0, 4, 7);
    }

    private static void joinOfNones() {
        Check.sentence("States", "the join of a state and \"none\" is the state");
        RangePropagator p = Programs.ofBlocks(4);
        p.branch(0, 0, 0, 0, 3, 1);
        p.branch(1, 0, 3, 1, 3, 2);
        p.analyze();
        Check.yes("the way past both", p.isReachable(2));
        Check.no("\"none\" and \"none\"", p.isReachable(3));
        Check.equal("edges that are not taken", p.deadEdges(), 2);
    }

    private static void setAndInput() {
        Check.sentence("States", "SET from the constant to the constant; INPUT its range");
        for (int[] r : Programs.GOOD_RANGES) {
            RangePropagator p = new RangePropagator();
            p.setInitial(3, -77, 77);
            p.input(0, 3, r[0], r[1]);
            p.analyze();
            Check.exit(r[0] + ".." + r[1], p, 0, 3, r[0], r[1]);
        }
    }

    /** Computes variable 2 of the ranges of variables 0 and 1 and checks it. */
    private static void computed(int kind, int[] y, int[] z, int low, int high) {
        RangePropagator p = new RangePropagator();
        p.setInitial(0, y[0], y[1]);
        p.setInitial(1, z[0], z[1]);
        p.compute(0, kind, 2, 0, 1);
        p.analyze();
        String what = "kind " + kind + " of " + y[0] + ".." + y[1] + ", " + z[0] + ".." + z[1];
        Check.exit(what, p, 0, 2, low, high);
        Check.exit(what + ": y is kept", p, 0, 0, y[0], y[1]);
        Check.exit(what + ": z is kept", p, 0, 1, z[0], z[1]);
        Check.entry(what + ": the entry is kept", p, 0, 2, 0, 0);
    }

    private static void copy() {
        Check.sentence("States", "COPY that of y");
        computed(0, range(-3, 5), range(2, 7), -3, 5);
        computed(0, range(4, 4), range(2, 7), 4, 4);
        computed(0, range(LEAST, GREATEST), range(0, 0), LEAST, GREATEST);
    }

    private static void add() {
        Check.sentence("States", "ADD from low + low to high + high");
        computed(1, range(-3, 5), range(2, 7), -1, 12);
        computed(1, range(4, 4), range(2, 7), 6, 11);
        computed(1, range(4, 4), range(-4, -4), 0, 0);
        computed(1, range(-3, -2), range(-7, -5), -10, -7);
    }

    private static void sub() {
        Check.sentence("States", "SUB from low of y - high of z to high of y - low of z");
        computed(2, range(-3, 5), range(2, 7), -10, 3);
        computed(2, range(4, 4), range(2, 7), -3, 2);
        computed(2, range(4, 4), range(4, 4), 0, 0);
        computed(2, range(2, 7), range(2, 7), -5, 5);
    }

    private static void mul() {
        Check.sentence("States",
                "MUL from the least to the greatest of the four products of a low or high of y and a low or high of z");
        int[][] cases = {
            // y, z, the product: each of the four products is the least once and the greatest once
            {2, 3, 5, 7, 10, 21}, {-3, -2, 5, 7, -21, -10}, {2, 3, -7, -5, -21, -10}, {-3, -2, -7, -5, 10, 21},
            {-3, 2, 5, 7, -21, 14}, {-3, 2, -7, -5, -14, 21}, {2, 3, -5, 7, -15, 21}, {-3, -2, -5, 7, -21, 15},
            {-3, 2, -5, 7, -21, 15}, {-2, 3, -7, 5, -21, 15}, {-3, 4, -5, 6, -20, 24}, {-4, 3, -6, 5, -20, 24},
            {0, 0, -5, 7, 0, 0}, {-3, 2, 0, 0, 0, 0}, {0, 2, 0, 7, 0, 14}, {-3, 0, 0, 7, -21, 0}, {4, 4, 6, 6, 24, 24}
        };
        for (int[] c : cases) {
            computed(3, range(c[0], c[1]), range(c[2], c[3]), c[4], c[5]);
        }
    }

    private static void minAndMax() {
        Check.sentence("States",
                "MIN from the smaller low to the smaller high, MAX from the greater low to the greater high");
        int[][] cases = {
            // y, z, MIN, MAX
            {-3, 5, 2, 7, -3, 5, 2, 7}, {0, 9, 4, 6, 0, 6, 4, 9}, {1, 2, 3, 4, 1, 2, 3, 4}, {1, 3, 3, 4, 1, 3, 3, 4},
            {1, 4, 1, 3, 1, 3, 1, 4}, {5, 5, 5, 5, 5, 5, 5, 5}, {5, 5, 6, 6, 5, 5, 6, 6},
            {LEAST, GREATEST, 0, 0, LEAST, 0, 0, GREATEST}
        };
        for (int[] c : cases) {
            int[] one = range(c[0], c[1]);
            int[] other = range(c[2], c[3]);
            computed(4, one, other, c[4], c[5]);
            computed(4, other, one, c[4], c[5]);
            computed(5, one, other, c[6], c[7]);
            computed(5, other, one, c[6], c[7]);
        }
    }

    private static void tooSmallOrTooGreat() {
        Check.sentence("States", "Results that are too small or too great are limited as above.");
        int[] all = range(LEAST, GREATEST);
        for (int kind = 0; kind < 6; kind++) {
            computed(kind, all, all, LEAST, GREATEST);
        }
        int[] top = range(GREATEST - 2, GREATEST - 1);
        int[] bottom = range(LEAST + 1, LEAST + 2);
        int[][] added = {{0, -2, -1}, {1, -1, 0}, {2, 0, 0}, {3, 0, 0}};
        for (int[] c : added) {
            // What is added, then the ends of the result, seen from the limit.
            computed(1, top, range(c[0], c[0]), GREATEST + c[1], GREATEST + c[2]);
            computed(1, bottom, range(-c[0], -c[0]), LEAST - c[2], LEAST - c[1]);
            computed(2, top, range(-c[0], -c[0]), GREATEST + c[1], GREATEST + c[2]);
            computed(2, bottom, range(c[0], c[0]), LEAST - c[2], LEAST - c[1]);
        }
        computed(1, top, range(-1, 3), GREATEST - 3, GREATEST);
        computed(2, bottom, range(-1, 3), LEAST, LEAST + 3);
        computed(1, range(LEAST, LEAST), range(LEAST, LEAST), LEAST, LEAST);
        computed(2, top, bottom, GREATEST, GREATEST);
        computed(2, bottom, top, LEAST, LEAST);
        productsAtTheLimits(top, bottom);
    }

    private static void productsAtTheLimits(int[] top, int[] bottom) {
        computed(3, range(499999999, 500000000), range(2, 2), 999999998, GREATEST);
        computed(3, range(500000000, 500000001), range(2, 2), GREATEST, GREATEST);
        computed(3, range(499999999, 500000001), range(-2, -2), LEAST, -999999998);
        computed(3, range(499999999, 500000001), range(-2, 2), LEAST, GREATEST);
        computed(3, range(31622, 31623), range(31622, 31623), 999950884, GREATEST);
        computed(3, range(65536, 65536), range(65536, 65536), GREATEST, GREATEST);
        computed(3, range(65536, 65536), range(-65536, -65536), LEAST, LEAST);
        computed(3, top, top, GREATEST, GREATEST);
        computed(3, top, bottom, LEAST, LEAST);
        computed(3, bottom, bottom, GREATEST, GREATEST);
    }

    private static void onlyXHasAnotherRange() {
        Check.sentence("States", "A statement makes of a state the one in which x has another range");
        for (int x = 0; x < 6; x++) {
            for (int kind = 0; kind < 7; kind++) {
                RangePropagator p = new RangePropagator();
                for (int variable = 0; variable < 6; variable++) {
                    p.setInitial(variable, variable + 2, 2 * variable + 3);
                }
                if (kind < 6) {
                    p.compute(0, kind, x, (x + 1) % 6, (x + 2) % 6);
                } else {
                    p.input(0, x, 70, 80);
                }
                p.analyze();
                for (int other = 0; other < 6; other++) {
                    if (other != x) {
                        Check.exit("variable " + other, p, 0, other, other + 2, 2 * other + 3);
                    }
                }
            }
        }
    }

    private static void sameVariables() {
        Check.sentence("States", "of the ranges of y and z");
        int[][] due = {{-2, 3}, {-4, 6}, {-5, 5}, {-6, 9}, {-2, 3}, {-2, 3}};
        for (int kind = 0; kind < 6; kind++) {
            RangePropagator p = new RangePropagator();
            p.setInitial(0, -2, 3);
            p.compute(0, kind, 0, 0, 0);
            p.analyze();
            // The two operands are taken as apart: x - x is -2 - 3 to 3 - -2.
            Check.exit("kind " + kind + " of x and x", p, 0, 0, due[kind][0], due[kind][1]);
        }
        RangePropagator q = new RangePropagator();
        q.setInitial(0, -2, 3);
        q.setInitial(1, 4, 5);
        q.compute(0, 2, 0, 1, 0);
        q.compute(0, 2, 1, 1, 0);
        q.analyze();
        Check.exit("x is z", q, 0, 0, 1, 7);
        Check.exit("x is y, and z was changed before", q, 0, 1, -3, 4);
    }

    private static int valueOf(int kind, int y, int z) {
        int[] values = {y, y + z, y - z, y * z, y < z ? y : z, y > z ? y : z};
        return values[kind];
    }

    /** On small ranges, each range must be the hull of all outcomes. */
    private static void everyPairOfSmallRanges() {
        Check.sentence("States", "A statement makes of a state the one in which x has another range");
        for (int code = 0; code < 5 * 5 * 5 * 5; code++) {
            int[] y = range(code % 5 - 2, code / 5 % 5 - 2);
            int[] z = range(code / 25 % 5 - 2, code / 125 % 5 - 2);
            for (int kind = 0; kind < 6 && y[0] <= y[1] && z[0] <= z[1]; kind++) {
                int low = 99;
                int high = -99;
                for (int a = y[0]; a <= y[1]; a++) {
                    for (int b = z[0]; b <= z[1]; b++) {
                        low = Math.min(low, valueOf(kind, a, b));
                        high = Math.max(high, valueOf(kind, a, b));
                    }
                }
                computed(kind, y, z, low, high);
            }
        }
    }
}
