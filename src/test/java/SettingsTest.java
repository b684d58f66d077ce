/** Promises 10 and 11: the effort and the thresholds. */
public final class SettingsTest {
    private static final Class<IllegalArgumentException> NO_ARGUMENT = IllegalArgumentException.class;
    private static final Class<IllegalStateException> NO_STATE = IllegalStateException.class;
    private static final int MIN = Integer.MIN_VALUE;
    private static final int MAX = Integer.MAX_VALUE;

    public static void main(String[] args) {
        setEffort();
        addThreshold();
        thresholdsAreUsed();
        lowsMeetThresholds();
        eightThresholds();
        delayIsUsed();
        narrowingsAreUsed();
        Check.end("SettingsTest");
    }

    private static void setEffort() {
        RangePropagator p = new RangePropagator();
        Check.no("10 the first settings", p.setEffort(2, 1));
        Check.yes("10 another delay", p.setEffort(3, 1));
        Check.yes("10 another number", p.setEffort(3, 0));
        Check.no("10 the same", p.setEffort(3, 0));
        Check.yes("10 the greatest", p.setEffort(10, 5));
        Check.yes("10 the least", p.setEffort(0, 0));
        p.analyze();
        for (int bad : new int[] {-1, 11, MIN, MAX}) {
            Check.refused("10 delay", p, NO_ARGUMENT, () -> p.setEffort(bad, 1));
        }
        for (int bad : new int[] {-1, 6, MIN, MAX}) {
            Check.refused("10 narrowings", p, NO_ARGUMENT, () -> p.setEffort(1, bad));
        }
        Check.no("10 a refused call changed nothing", p.setEffort(0, 0));
    }

    private static void addThreshold() {
        RangePropagator p = new RangePropagator();
        Check.equal("11 the least", p.addThreshold(-999999999), 1);
        Check.equal("11 the greatest", p.addThreshold(999999999), 2);
        Check.equal("11 again", p.addThreshold(-999999999), 2);
        Check.equal("11 zero", p.addThreshold(0), 3);
        p.analyze();
        for (int bad : new int[] {-1000000000, 1000000000, MIN, MAX}) {
            Check.refused("11 threshold", p, NO_ARGUMENT, () -> p.addThreshold(bad));
        }
        for (int i = 4; i <= 8; i++) {
            Check.equal("11 more", p.addThreshold(i), i);
            Check.equal("11 an old one", i == 8 ? 8 : p.addThreshold(0), i);
        }
        p.analyze();
        Check.refused("11 the ninth", p, NO_STATE, () -> p.addThreshold(77));
        Check.refused("11 an old one when there are 8", p, NO_STATE, () -> p.addThreshold(0));
        Check.refused("11 argument first", p, NO_ARGUMENT, () -> p.addThreshold(1000000000));
    }

    /** Variable 0 rises and variable 1 sinks by 1 in an endless loop of block 1. */
    private static RangePropagator loop() {
        RangePropagator p = new RangePropagator();
        p.addBlock();
        p.input(0, 2, 1, 1);
        p.jump(0, 1);
        p.compute(1, 1, 0, 0, 2);
        p.compute(1, 2, 1, 1, 2);
        p.jump(1, 1);
        return p;
    }

    private static void thresholdsAreUsed() {
        RangePropagator p = loop();
        p.addThreshold(100);
        p.addThreshold(5);
        p.addThreshold(-7);
        // Entries of variable 0: 0, 0..1, 0..5 (widened), 0..100, 0..1000000000.
        Check.equal("11 rounds", p.analyze(), 6);
        Check.equal("11 visits", p.visits(1), 5);
        Check.equal("11 high", p.entry(1, 0, true), 1000000000);
        Check.equal("11 low", p.entry(1, 1, false), -1000000000);

        // Block 1 is widened to 5, block 2 from 0..4 to 5 too, so block 1 must go on.
        RangePropagator q = countToFive();
        q.addThreshold(5);
        q.setEffort(0, 0);
        Check.equal("11 rounds", q.analyze(), 4);
        Check.equal("11 high", q.entry(1, 0, true), 1000000000);
        Check.equal("11 high in the loop", q.entry(2, 0, true), 5);
        q.setEffort(0, 1);
        q.analyze();
        Check.equal("11 high, narrowed", q.entry(1, 0, true), 6);
        Check.equal("11 high in the loop, narrowed", q.entry(2, 0, true), 4);
        q.setEffort(0, 2);
        q.analyze();
        Check.equal("11 high, narrowed twice", q.entry(1, 0, true), 5);

        // With 4 as well, both blocks stay at their thresholds.
        q.addThreshold(4);
        q.setEffort(0, 0);
        Check.equal("11 rounds", q.analyze(), 4);
        Check.equal("11 high is 5", q.entry(1, 0, true), 5);
        Check.equal("11 high in the loop is 4", q.entry(2, 0, true), 4);
        Check.equal("11 low behind the loop", q.entry(3, 0, false), 5);
    }

    /** Block 0 leads to itself; its INPUT makes the range of variable 0 that is joined. */
    private static RangePropagator joinedWith(int low, int high, int... thresholds) {
        RangePropagator p = new RangePropagator();
        p.setEffort(0, 0);
        p.setInitial(0, -2, 2);
        p.input(0, 0, low, high);
        p.jump(0, 0);
        for (int threshold : thresholds) {
            p.addThreshold(threshold);
        }
        p.analyze();
        return p;
    }

    private static void lowsMeetThresholds() {
        Check.equal("11 low is a threshold", joinedWith(-9, 0, -9, -10, -1).entry(0, 0, false), -9);
        Check.equal("11 low is above one", joinedWith(-9, 0, -10, -20, -8).entry(0, 0, false), -10);
        Check.equal("11 low is above one, another order", joinedWith(-9, 0, -8, -20, -10).entry(0, 0, false), -10);
        Check.equal("11 low is below all", joinedWith(-9, 0, -8, 8).entry(0, 0, false), -1000000000);
        Check.equal("11 low stays", joinedWith(-2, 9, -8, 8).entry(0, 0, false), -2);
        Check.equal("11 high is a threshold", joinedWith(0, 9, 9, 10, 1).entry(0, 0, true), 9);
        Check.equal("11 high is below one", joinedWith(0, 9, 10, 20, 8).entry(0, 0, true), 10);
        Check.equal("11 high is below one, another order", joinedWith(0, 9, 8, 20, 10).entry(0, 0, true), 10);
        Check.equal("11 high is above all", joinedWith(0, 9, -8, 8).entry(0, 0, true), 1000000000);
        Check.equal("11 high stays", joinedWith(-9, 2, -8, 8).entry(0, 0, true), 2);
    }

    private static void eightThresholds() {
        RangePropagator p = joinedWith(-7, 7, 1, 2, 3, 4, 5, 6, -6, 8);
        Check.equal("11 the last one counts", p.entry(0, 0, true), 8);
        Check.equal("11 none of eight", p.entry(0, 0, false), -1000000000);
        // Zero was not added, so it is no threshold.
        RangePropagator q = new RangePropagator();
        q.setEffort(0, 0);
        q.setInitial(0, -9, -8);
        q.setInitial(1, 8, 9);
        q.input(0, 0, -5, -5);
        q.input(0, 1, 5, 5);
        q.jump(0, 0);
        q.analyze();
        Check.equal("11 zero is no threshold: high", q.entry(0, 0, true), 1000000000);
        Check.equal("11 zero is no threshold: low", q.entry(0, 1, false), -1000000000);
    }

    private static RangePropagator countToFive() {
        RangePropagator p = new RangePropagator();
        p.addBlock();
        p.addBlock();
        p.addBlock();
        p.input(0, 2, 1, 1);
        p.input(0, 3, 5, 5);
        p.jump(0, 1);
        p.branch(1, 0, 0, 3, 2, 3);
        p.compute(2, 1, 0, 0, 2);
        p.jump(2, 1);
        return p;
    }

    private static void delayIsUsed() {
        for (int delay = 0; delay <= 10; delay++) {
            RangePropagator p = loop();
            p.setEffort(delay, 0);
            p.analyze();
            // With 1 visit a join is due; it is widened as soon as the visits reach the delay.
            Check.equal("10 visits with delay " + delay, p.visits(1), Math.max(delay, 1) + 1);
            Check.equal("10 high", p.entry(1, 0, true), 1000000000);
            Check.equal("10 low", p.entry(1, 0, false), 0);
        }
    }

    private static void narrowingsAreUsed() {
        int[] high = {1000000000, 10, 10};
        for (int narrowings = 0; narrowings < 3; narrowings++) {
            RangePropagator p = new RangePropagator();
            p.addBlock();
            p.addBlock();
            p.addBlock();
            p.input(0, 2, 1, 1);
            p.input(0, 3, 10, 10);
            p.jump(0, 2);
            p.compute(1, 1, 0, 0, 2);
            p.jump(1, 2);
            p.branch(2, 0, 0, 3, 1, 3);
            p.setEffort(2, narrowings);
            p.analyze();
            Check.equal("10 high with " + narrowings + " narrowings", p.entry(2, 0, true), high[narrowings]);
            Check.equal("10 visits do not count narrowings", p.visits(2), 3);
        }
    }
}
