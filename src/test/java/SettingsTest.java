/** Promises 10 and 11, sentence by sentence: the effort and the thresholds. */
public final class SettingsTest {
    public static void main(String[] args) {
        Check.all("SettingsTest",
                SettingsTest::setEffortSets,
                SettingsTest::setEffortReturnsWhetherOther,
                SettingsTest::setEffortWrongArguments,
                SettingsTest::addThresholdAdds,
                SettingsTest::addThresholdReturnsTheNumber,
                SettingsTest::addThresholdAddedAlready,
                SettingsTest::addThresholdWrongArgument,
                SettingsTest::addThresholdAtEight);
    }

    private static void setEffortSets() {
        Check.sentence("Promise 10", "Sets the delay and the number of narrowings.");
        RangePropagator p = Programs.counting(10);
        p.setEffort(10, 0);
        p.analyze();
        Check.equal("visits with delay 10", p.visits(1), 11);
        Check.equal("high without narrowings", p.entry(1, 0, true), Check.GREATEST);
        p.setEffort(3, 0);
        p.analyze();
        Check.equal("visits with delay 3", p.visits(1), 4);
        p.setEffort(3, 5);
        p.analyze();
        Check.equal("visits do not count narrowings", p.visits(1), 4);
        Check.equal("high with narrowings", p.entry(1, 0, true), 10);
        RangePropagator q = new RangePropagator();
        q.setEffort(7, 4);
        // A propagator of one empty block: blocks, statements, edges, delay, narrowings, thresholds, six results.
        Check.equal("in the digest", q.digest(), DigestTest.of(1, 0, 0, 7, 4, 0, 0, 0, 0, 0, 0, 0));
    }

    private static void setEffortReturnsWhetherOther() {
        Check.sentence("Promise 10", "Returns whether one of them is another one than before.");
        RangePropagator p = new RangePropagator();
        Check.no("2 and 1 at first", p.setEffort(2, 1));
        Check.yes("another delay", p.setEffort(3, 1));
        Check.yes("another number", p.setEffort(3, 0));
        Check.no("the same", p.setEffort(3, 0));
        Check.yes("both", p.setEffort(0, 3));
        Check.yes("the greatest", p.setEffort(10, 5));
        Check.no("the same", p.setEffort(10, 5));
        Check.yes("the least", p.setEffort(0, 0));
        Check.no("the same", p.setEffort(0, 0));
    }

    private static void setEffortWrongArguments() {
        Check.sentence("Promise 10",
                "Throws `IllegalArgumentException` if delay is not 0 to 10, or narrowings is not 0 to 5");
        RangePropagator p = new RangePropagator();
        for (int delay = 0; delay <= 10; delay++) {
            for (int narrowings = 0; narrowings <= 5; narrowings++) {
                Check.yes("delay " + delay + ", narrowings " + narrowings, p.setEffort(delay, narrowings));
            }
        }
        p.analyze();
        Check.refusedFor("delay", p, Check.ARGUMENT, i -> p.setEffort(i, 0), -1, 11, 12, Check.MIN, Check.MAX);
        Check.refusedFor("narrowings", p, Check.ARGUMENT, i -> p.setEffort(0, i), -1, 6, 7, Check.MIN, Check.MAX);
        Check.refusedFor("both", p, Check.ARGUMENT, i -> p.setEffort(i, i), -1, 11);
        // 6 to 10 is good as a delay alone.
        Check.refusedFor("narrowings", p, Check.ARGUMENT, i -> p.setEffort(i, i), 6, 10);
        Check.no("they are as before", p.setEffort(10, 5));
    }

    private static void addThresholdAdds() {
        Check.sentence("Promise 11", "Adds a threshold.");
        Check.entry("none", Programs.widened(-9, 9), 0, 3, Check.LEAST, Check.GREATEST);
        Check.entry("one for the low", Programs.widened(-9, 9, -9), 0, 3, -9, Check.GREATEST);
        Check.entry("one for the high", Programs.widened(-9, 9, 9), 0, 3, Check.LEAST, 9);
        Check.entry("the order does not matter", Programs.widened(-9, 9, 20, 10, 30, -20, -10, -30), 0, 3, -10, 10);
        Check.entry("the order does not matter", Programs.widened(-9, 9, -30, -20, -10, 10, 20, 30), 0, 3, -10, 10);
        Check.entry("the eighth counts", Programs.widened(-7, 7, 1, 2, 3, 4, 5, 6, -9, 8), 0, 3, -9, 8);
        Check.entry("the least that can be added", Programs.widened(-999999999, 0, -999999999), 0, 3, -999999999, 2);
        Check.entry("the greatest that can be added", Programs.widened(0, 999999999, 999999999), 0, 3, -2, 999999999);
        zeroIsNoThreshold();
    }

    private static void zeroIsNoThreshold() {
        RangePropagator p = new RangePropagator();
        p.setEffort(0, 0);
        p.setInitial(0, -9, -8);
        p.setInitial(1, 8, 9);
        p.input(0, 0, -5, -5);
        p.input(0, 1, 5, 5);
        p.jump(0, 0);
        p.analyze();
        Check.entry("zero was not added", p, 0, 0, -9, Check.GREATEST);
        Check.entry("zero was not added", p, 0, 1, Check.LEAST, 9);
        p.addThreshold(0);
        p.analyze();
        Check.entry("zero was added", p, 0, 0, -9, 0);
        Check.entry("zero was added", p, 0, 1, 0, 9);
    }

    private static void addThresholdReturnsTheNumber() {
        Check.sentence("Promise 11", "Returns the number of thresholds, without the two that are there always");
        RangePropagator p = new RangePropagator();
        for (int count = 1; count <= 8; count++) {
            Check.equal("addThreshold", p.addThreshold(count * 100 - 450), count);
        }
    }

    private static void addThresholdAddedAlready() {
        Check.sentence("Promise 11", "one that was added already is not counted again");
        RangePropagator p = new RangePropagator();
        for (int count = 1; count <= 7; count++) {
            Check.equal("a new one", p.addThreshold(-count), count);
            Check.equal("the newest one again", p.addThreshold(-count), count);
            Check.equal("the first one again", p.addThreshold(-1), count);
        }
        Check.equal("one that differs in its sign alone", p.addThreshold(1), 8);
    }

    private static void addThresholdWrongArgument() {
        Check.sentence("Promise 11", "Throws `IllegalArgumentException` if it is not -999999999 to 999999999");
        RangePropagator p = new RangePropagator();
        Check.equal("the least", p.addThreshold(-999999999), 1);
        Check.equal("the greatest", p.addThreshold(999999999), 2);
        Check.equal("one more than the least", p.addThreshold(-999999998), 3);
        Check.equal("one less than the greatest", p.addThreshold(999999998), 4);
        p.analyze();
        Check.refusedFor("threshold", p, Check.ARGUMENT, p::addThreshold,
                -1000000000, -1000000001, Check.MIN, 1000000000, 1000000001, Check.MAX);
        Check.equal("the number is as before", p.addThreshold(0), 5);
    }

    private static void addThresholdAtEight() {
        Check.sentence("Promise 11", "Throws `IllegalStateException` if there are 8 thresholds");
        RangePropagator p = new RangePropagator();
        for (int count = 1; count <= 7; count++) {
            p.addThreshold(count);
        }
        Check.equal("with 7, one that was added already", p.addThreshold(1), 7);
        Check.equal("with 7, a new one", p.addThreshold(8), 8);
        p.analyze();
        Check.refusedFor("with 8, a new one", p, Check.STATE, p::addThreshold, 0, 9, -999999999, 999999999);
        Check.refusedFor("with 8, one that was added already", p, Check.STATE, p::addThreshold, 1, 7, 8);
    }
}
