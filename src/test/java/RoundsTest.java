/** The section "Analysis" of the description, sentence by sentence, up to the last round. */
public final class RoundsTest {
    private static final int LEAST = Check.LEAST;
    private static final int GREATEST = Check.GREATEST;

    public static void main(String[] args) {
        Check.all("RoundsTest",
                RoundsTest::settingsAtFirst,
                RoundsTest::thresholdsThatAreThereAlways,
                RoundsTest::allIsNoneAtTheBeginning,
                RoundsTest::roundsUntilNothingChanges,
                RoundsTest::ascendingOrder,
                RoundsTest::edgesAsTheyAreNow,
                RoundsTest::initialRangesOfBlock0,
                RoundsTest::nothingHappensWithoutAnEdge,
                RoundsTest::firstEntryStateIsN,
                RoundsTest::joinBeforeTheDelay,
                RoundsTest::visitsReachTheDelay,
                RoundsTest::visitsAreThoseOfTheBlock,
                RoundsTest::lowsBecomeThresholds,
                RoundsTest::highsBecomeThresholds,
                RoundsTest::widenedToTheLimits,
                RoundsTest::otherEndsStay,
                RoundsTest::visitsCountChanges,
                RoundsTest::edgesAreMadeAnew);
    }

    private static void settingsAtFirst() {
        Check.sentence("Analysis", "Settings are the delay, 0 to 10 (2 at first), the number of narrowings, 0 to 5 "
                + "(1 at first), and up to 8 thresholds");
        RangePropagator p = Programs.counting(10);
        p.analyze();
        Check.equal("the delay: visits of the head", p.visits(1), 3);
        Check.equal("one narrowing: the body", p.entry(2, 0, true), 9);
        Check.equal("one narrowing: not yet the head", p.entry(1, 0, true), GREATEST);
        Check.no("2 and 1", p.setEffort(2, 1));
        Check.equal("no threshold", p.addThreshold(5), 1);
        RangePropagator q = Programs.counting(10);
        for (int count = 1; count <= 8; count++) {
            q.addThreshold(count * 3);
        }
        Check.refused("a ninth threshold", q, Check.STATE, () -> q.addThreshold(1));
    }

    private static void thresholdsThatAreThereAlways() {
        Check.sentence("Analysis", "-1000000000 and 1000000000 are thresholds always");
        for (int count = 0; count <= 8; count++) {
            RangePropagator p = Programs.drifting();
            for (int threshold = 1; threshold <= count; threshold++) {
                p.addThreshold(threshold % 2 == 0 ? threshold : -threshold);
            }
            p.analyze();
            Check.entry(count + " thresholds, rising", p, 1, 0, 0, GREATEST);
            Check.entry(count + " thresholds, sinking", p, 1, 1, LEAST, 0);
        }
    }

    private static void allIsNoneAtTheBeginning() {
        Check.sentence("Analysis", "At the beginning, all entry states are \"none\", all visits are 0.");
        RangePropagator p = Programs.counting(10);
        p.analyze();
        int visits = p.visits(1);
        for (int time = 0; time < 3; time++) {
            Check.equal("rounds of another analysis", p.analyze(), 4);
            Check.equal("visits of another analysis", p.visits(1), visits);
        }
        p.setInitial(5, 3, 4);
        p.analyze();
        p.setInitial(5, 7, 8);
        p.analyze();
        Check.entry("nothing is left of the earlier ranges", p, 3, 5, 7, 8);
        p.jump(0, 3);
        p.analyze();
        Check.no("a block that was reachable", p.isReachable(1));
        Check.equal("its visits", p.visits(1), 0);
        Check.equal("its constants", p.constants(1), 0);
        Check.yes("its edge 0", p.isDead(1, 0));
        Check.yes("its edge 1", p.isDead(1, 1));
        Check.entry("nothing comes from it", p, 3, 0, 0, 0);
    }

    private static void roundsUntilNothingChanges() {
        Check.sentence("Analysis", "Rounds are made until there is a round in which nothing changes.");
        // The head changes in each round: 0, 0 to 1, ... up to the limit or to the widened end.
        for (int limit = 0; limit <= 9; limit++) {
            RangePropagator p = Programs.counting(limit);
            p.setEffort(10, 0);
            Check.equal("a loop to " + limit, p.analyze(), limit + 2);
            Check.entry("a loop to " + limit, p, 1, 0, 0, limit);
            Check.entry("behind a loop to " + limit, p, 3, 0, limit, limit);
        }
        RangePropagator q = Programs.drifting();
        for (int threshold = 10; threshold <= 80; threshold += 10) {
            q.addThreshold(threshold);
        }
        // 0, 0 to 1, then each of the 8 thresholds, the greatest; a round without a change.
        Check.equal("8 thresholds, one after the other", q.analyze(), 12);
        Check.equal("a change in each round but the last", q.visits(1), 11);
    }

    private static void ascendingOrder() {
        Check.sentence("Analysis", "In a round, the blocks are looked at in ascending order.");
        Check.equal("16 blocks, each behind a lower one", Programs.upwards().analyze(), 2);
        Check.equal("16 blocks, each behind a higher one", Programs.downwards().analyze(), 16);
        RangePropagator p = Programs.ofBlocks(4);
        p.jump(0, 2);
        p.jump(2, 1);
        p.jump(1, 3);
        Check.equal("one step back", p.analyze(), 3);
    }

    private static void edgesAsTheyAreNow() {
        Check.sentence("Analysis",
                "let N be the join of the states of all edges that lead to it, as they are now");
        // Block 3 is looked at behind 1 and 2, so it sees both at once; block 1 sees block 3 a round later.
        RangePropagator p = Programs.ofBlocks(4);
        p.setInitial(0, -1, 1);
        p.branch(0, 0, 0, 1, 1, 2);
        p.input(1, 2, 5, 5);
        p.input(2, 2, 7, 7);
        p.jump(1, 3);
        p.jump(2, 3);
        Check.equal("rounds", p.analyze(), 2);
        Check.equal("both edges in one visit", p.visits(3), 1);
        Check.entry("both edges", p, 3, 2, 5, 7);
        p.jump(3, 1);
        Check.equal("rounds with an edge back", p.analyze(), 3);
        Check.equal("the edge back is seen in the second round", p.visits(1), 2);
        Check.entry("the edge back", p, 1, 2, 0, 7);
        // Edge 0 of block 0 and both edges of block 1 lead to block 2.
        RangePropagator q = Programs.ofBlocks(3);
        q.setInitial(0, 0, 9);
        q.setInitial(1, 4, 4);
        q.branch(0, 0, 0, 1, 2, 1);
        q.branch(1, 0, 2, 1, 2, 2);
        q.analyze();
        Check.entry("edges of two blocks, three in all", q, 2, 0, 0, 9);
    }

    private static void initialRangesOfBlock0() {
        Check.sentence("Analysis", "and, for block 0, of the state with the initial ranges");
        RangePropagator p = Programs.ofBlocks(2);
        p.setInitial(0, 3, 4);
        p.input(0, 0, 1, 1);
        p.jump(0, 1);
        p.jump(1, 0);
        Check.equal("rounds", p.analyze(), 3);
        Check.entry("block 0 in a loop", p, 0, 0, 1, 4);
        Check.equal("visits", p.visits(0), 2);
        Check.entry("for no other block", p, 1, 0, 1, 1);
        RangePropagator q = Programs.ofBlocks(2);
        q.setInitial(0, 3, 4);
        q.analyze();
        Check.no("for no other block", q.isReachable(1));
    }

    private static void nothingHappensWithoutAnEdge() {
        Check.sentence("Analysis", "If N is \"none\", nothing happens.");
        RangePropagator p = Programs.ofBlocks(16);
        p.jump(1, 1);
        p.branch(2, 0, 1, 1, 2, 3);
        p.branch(0, 0, 3, 1, 4, 0);
        Check.equal("rounds", p.analyze(), 2);
        for (int block = 1; block < 16; block++) {
            Check.no("block " + block, p.isReachable(block));
            Check.equal("visits of block " + block, p.visits(block), 0);
        }
    }

    private static void firstEntryStateIsN() {
        Check.sentence("Analysis", "The new entry state is N if E is \"none\"");
        for (int delay = 0; delay <= 2; delay++) {
            RangePropagator p = Programs.ofBlocks(2);
            p.setInitial(0, -3, 7);
            p.jump(0, 1);
            p.addThreshold(-5);
            p.addThreshold(9);
            p.setEffort(delay, 0);
            p.analyze();
            Check.entry("block 0, delay " + delay, p, 0, 0, -3, 7);
            Check.entry("block 1, delay " + delay, p, 1, 0, -3, 7);
            Check.equal("one visit, delay " + delay, p.visits(1), 1);
        }
    }

    private static void joinBeforeTheDelay() {
        Check.sentence("Analysis", "otherwise it is the join of E and N");
        // Block 1 is entered with 0 to 3 and, from block 2, with one range more.
        int[][] cases = {{1, 2, 0, 3}, {0, 3, 0, 3}, {4, 6, 0, 6}, {-6, -4, -6, 3}, {-1, 4, -1, 4}, {8, 9, 0, 9}};
        for (int[] c : cases) {
            RangePropagator p = Programs.ofBlocks(3);
            p.setInitial(0, 0, 3);
            p.jump(0, 1);
            p.jump(1, 2);
            p.input(2, 0, c[0], c[1]);
            p.jump(2, 1);
            p.setEffort(2, 0);
            p.analyze();
            Check.entry("0..3 and " + c[0] + ".." + c[1], p, 1, 0, c[2], c[3]);
        }
    }

    private static void visitsReachTheDelay() {
        Check.sentence("Analysis", "but if the visits of the block are not less than the delay");
        for (int delay = 0; delay <= 10; delay++) {
            // The head changes limit + 1 times: the first time from "none", the last time with limit visits.
            for (int limit = Math.max(1, delay - 1); limit <= delay + 1; limit++) {
                RangePropagator p = Programs.counting(limit);
                p.setEffort(delay, 0);
                p.analyze();
                boolean isWidened = limit >= delay;
                String what = "delay " + delay + ", a loop to " + limit;
                Check.entry(what, p, 1, 0, 0, isWidened ? GREATEST : limit);
                Check.equal(what + ": visits", p.visits(1), isWidened ? Math.max(delay, 1) + 1 : limit + 1);
            }
        }
    }

    private static void visitsAreThoseOfTheBlock() {
        Check.sentence("Analysis", "the visits of the block");
        // Block 1 is entered first in round 15; what counts are its own visits.
        RangePropagator p = Programs.downwards();
        p.setInitial(2, 1, 1);
        p.compute(1, 1, 0, 0, 2);
        p.jump(1, 1);
        p.setEffort(3, 0);
        // Round 15: 0. Rounds 16 and 17: 0 to 1, 0 to 2. Round 18: widened. Round 19: nothing.
        Check.equal("rounds", p.analyze(), 19);
        Check.equal("visits of block 1", p.visits(1), 4);
        Check.equal("visits of block 2", p.visits(2), 1);
        Check.entry("block 1", p, 1, 0, 0, GREATEST);
    }

    private static void lowsBecomeThresholds() {
        Check.sentence("Analysis", "each low of the join that is less than that of E becomes the greatest threshold that is "
                + "not greater than it");
        Check.entry("one above a threshold", Programs.widened(-9, 2, -10), 0, 3, -10, 2);
        Check.entry("a threshold", Programs.widened(-10, 2, -10), 0, 3, -10, 2);
        Check.entry("one below a threshold", Programs.widened(-11, 2, -10), 0, 3, LEAST, 2);
        Check.entry("one below a threshold, another below", Programs.widened(-11, 2, -10, -12), 0, 3, -12, 2);
        Check.entry("the greatest of three", Programs.widened(-9, 2, -30, -10, -20), 0, 3, -10, 2);
        Check.entry("thresholds above it do not count", Programs.widened(-9, 2, -8, -2, 0, 9), 0, 3, LEAST, 2);
        Check.entry("one less than that of E", Programs.widened(-3, 2, -3), 0, 3, -3, 2);
        Check.entry("that of E", Programs.widened(-2, 2, -5), 0, 3, -2, 2);
        Check.entry("greater than that of E", Programs.widened(-1, 2, -5), 0, 3, -2, 2);
    }

    private static void highsBecomeThresholds() {
        Check.sentence("Analysis", "and each high that is greater becomes the smallest threshold that is not less than it");
        Check.entry("one below a threshold", Programs.widened(-2, 9, 10), 0, 3, -2, 10);
        Check.entry("a threshold", Programs.widened(-2, 10, 10), 0, 3, -2, 10);
        Check.entry("one above a threshold", Programs.widened(-2, 11, 10), 0, 3, -2, GREATEST);
        Check.entry("one above a threshold, another above", Programs.widened(-2, 11, 10, 12), 0, 3, -2, 12);
        Check.entry("the smallest of three", Programs.widened(-2, 9, 30, 10, 20), 0, 3, -2, 10);
        Check.entry("thresholds below it do not count", Programs.widened(-2, 9, 8, 2, 0, -9), 0, 3, -2, GREATEST);
        Check.entry("one greater than that of E", Programs.widened(-2, 3, 3), 0, 3, -2, 3);
        Check.entry("that of E", Programs.widened(-2, 2, 5), 0, 3, -2, 2);
        Check.entry("less than that of E", Programs.widened(-2, 1, 5), 0, 3, -2, 2);
    }

    private static void widenedToTheLimits() {
        Check.sentence("Analysis", "-1000000000 and 1000000000 are thresholds always");
        Check.entry("the limits", Programs.widened(LEAST, GREATEST), 0, 3, LEAST, GREATEST);
        Check.entry("one step inside of them", Programs.widened(LEAST + 1, GREATEST - 1), 0, 3, LEAST, GREATEST);
        int[] nearest = {LEAST + 1, GREATEST - 1};
        Check.entry("the nearest thresholds", Programs.widened(LEAST + 1, GREATEST - 1, nearest), 0, 3,
                LEAST + 1, GREATEST - 1);
        Check.entry("one step outside of these", Programs.widened(LEAST, GREATEST, nearest), 0, 3, LEAST, GREATEST);
        Check.entry("one step inside of these", Programs.widened(LEAST + 2, GREATEST - 2, nearest), 0, 3,
                LEAST + 1, GREATEST - 1);
    }

    private static void otherEndsStay() {
        Check.sentence("Analysis", "each low of the join that is less than that of E ... each high that is greater");
        Check.entry("only the high rises", Programs.widened(0, 9, -5, 12), 0, 3, -2, 12);
        Check.entry("only the low sinks", Programs.widened(-9, 0, -12, 5), 0, 3, -12, 2);
        Check.entry("both", Programs.widened(-9, 9, -12, 12), 0, 3, -12, 12);
        Check.entry("neither", Programs.widened(-1, 1, -12, 12), 0, 3, -2, 2);
        RangePropagator p = Programs.widened(-9, 9, -12, 12);
        for (int variable : new int[] {0, 1, 2, 4, 5}) {
            Check.entry("another variable", p, 0, variable, 0, 0);
        }
        // Two variables are widened at once, one of them at its low, the other at its high.
        RangePropagator q = Programs.drifting();
        q.setEffort(0, 0);
        q.addThreshold(1);
        q.analyze();
        Check.entry("rising", q, 1, 0, 0, GREATEST);
        Check.entry("sinking", q, 1, 1, LEAST, 0);
        Check.entry("a constant", q, 1, 2, 1, 1);
    }

    private static void visitsCountChanges() {
        Check.sentence("Analysis", "If the new entry state is not E, this is a change: it becomes the entry state, the "
                + "visits increase by 1");
        Check.equal("no change behind the first", Programs.widened(-1, 1).visits(0), 1);
        Check.equal("no change behind the first", Programs.widened(-2, 2).visits(0), 1);
        Check.equal("a change of a low", Programs.widened(-3, 2).visits(0), 2);
        Check.equal("a change of a high", Programs.widened(-2, 3).visits(0), 2);
        Check.equal("a change of both is one", Programs.widened(-3, 3).visits(0), 2);
        Check.equal("rounds: the last one without a change", Programs.widened(-3, 3).analyze(), 3);
        // The last variable alone changes.
        RangePropagator p = new RangePropagator();
        p.input(0, 5, 0, 1);
        p.jump(0, 0);
        Check.equal("rounds", p.analyze(), 3);
        Check.equal("a change of the last variable alone", p.visits(0), 2);
    }

    private static void edgesAreMadeAnew() {
        Check.sentence("Analysis", "and the states of the edges of the block are made anew");
        RangePropagator p = Programs.ofBlocks(3);
        p.setInitial(1, 1, 1);
        p.setInitial(3, 5, 5);
        p.compute(0, 1, 0, 0, 1);
        // Block 0 is entered again until 5 is met; only then edge 0 is not dead.
        p.branch(0, 0, 2, 3, 1, 0);
        p.setEffort(10, 0);
        Check.equal("rounds", p.analyze(), 6);
        Check.no("an edge that was dead at first", p.isDead(0, 0));
        Check.entry("block 0", p, 0, 0, 0, 4);
        Check.entry("block 1", p, 1, 0, 5, 5);
        Check.equal("visits of block 1", p.visits(1), 1);
    }
}
