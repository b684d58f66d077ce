/** The section "Analysis" of the description, its last sentence: how long the analysis is kept. */
public final class KeptTest {
    public static void main(String[] args) {
        Check.all("KeptTest",
                KeptTest::endedByAChange,
                KeptTest::endedThoughNothingChanges,
                KeptTest::keptByAnException,
                KeptTest::keptByQuestions);
    }

    private interface CallOn {
        void make(RangePropagator p);
    }

    private static RangePropagator analyzed() {
        RangePropagator p = Programs.counting(10);
        p.addThreshold(4);
        p.run(1, 300);
        p.analyze();
        return p;
    }

    private static void ends(String what, CallOn call) {
        RangePropagator p = analyzed();
        Check.yes(what + ": there is an analysis before", p.isAnalyzed());
        call.make(p);
        Check.no(what + " ends the analysis", p.isAnalyzed());
        Check.refused(what + ": it is not told any more", p, Check.STATE, () -> p.entry(0, 0, false));
    }

    private static void endedByAChange() {
        Check.sentence("Analysis", "The analysis is kept until the next call of a method that changes the program or the "
                + "settings and throws no exception");
        ends("addBlock", RangePropagator::addBlock);
        ends("setInitial", p -> p.setInitial(5, 1, 2));
        ends("input", p -> p.input(3, 0, 0, 0));
        ends("compute", p -> p.compute(3, 0, 0, 0, 0));
        ends("jump", p -> p.jump(3, 3));
        ends("branch", p -> p.branch(3, 0, 0, 0, 3, 3));
        ends("clear", p -> p.clear(0));
        ends("setEffort", p -> p.setEffort(3, 1));
        ends("addThreshold", p -> p.addThreshold(5));
    }

    private static void endedThoughNothingChanges() {
        Check.sentence("Analysis", "(even if it changes nothing)");
        ends("setInitial, the same", p -> p.setInitial(0, 0, 0));
        ends("jump, the same", p -> p.jump(0, 1));
        ends("branch, the same", p -> p.branch(1, 0, 0, 1, 2, 3));
        ends("clear, an empty block", p -> p.clear(3));
        ends("setEffort, the same", p -> p.setEffort(2, 1));
        ends("addThreshold, one that was added already", p -> p.addThreshold(4));
    }

    private static void keeps(String what, Class<?> due, CallOn call) {
        RangePropagator p = analyzed();
        long digest = p.digest();
        Check.yes(what + " answers as due", Check.thrownBy(() -> call.make(p)) == due);
        Check.yes(what + " keeps the analysis", p.isAnalyzed());
        Check.equal(what + " keeps what is told of it", p.digest(), digest);
        Check.equal(what + " keeps the ranges", p.entry(2, 0, true), 9);
    }

    private static void keptByAnException() {
        Check.sentence("Analysis", "and throws no exception");
        keeps("setInitial", Check.INDEX, p -> p.setInitial(6, 0, 0));
        keeps("setInitial", Check.ARGUMENT, p -> p.setInitial(0, 1, 0));
        keeps("input", Check.INDEX, p -> p.input(4, 0, 0, 0));
        keeps("input", Check.ARGUMENT, p -> p.input(0, 0, 1, 0));
        keeps("compute", Check.INDEX, p -> p.compute(0, 0, 0, 0, 6));
        keeps("compute", Check.ARGUMENT, p -> p.compute(0, 6, 0, 0, 0));
        keeps("jump", Check.INDEX, p -> p.jump(0, 4));
        keeps("branch", Check.INDEX, p -> p.branch(0, 0, 0, 0, 0, 4));
        keeps("branch", Check.ARGUMENT, p -> p.branch(0, 0, 4, 0, 0, 0));
        keeps("clear", Check.INDEX, p -> p.clear(4));
        keeps("setEffort", Check.ARGUMENT, p -> p.setEffort(11, 0));
        keeps("setEffort", Check.ARGUMENT, p -> p.setEffort(0, 6));
        keeps("addThreshold", Check.ARGUMENT, p -> p.addThreshold(1000000000));
        fullOnes();
    }

    /** 16 blocks, a block of 8 statements, 8 thresholds. */
    private static void fullOnes() {
        RangePropagator p = Programs.ofBlocks(16);
        for (int count = 1; count <= 8; count++) {
            p.input(15, 0, 0, count);
            p.addThreshold(count);
        }
        p.analyze();
        Check.refused("addBlock", p, Check.STATE, p::addBlock);
        Check.refused("input", p, Check.STATE, () -> p.input(15, 0, 0, 0));
        Check.refused("compute", p, Check.STATE, () -> p.compute(15, 0, 0, 0, 0));
        Check.refused("addThreshold", p, Check.STATE, () -> p.addThreshold(9));
        Check.refused("addThreshold, one that was added already", p, Check.STATE, () -> p.addThreshold(8));
        Check.yes("they keep the analysis", p.isAnalyzed());
    }

    private static void keptByQuestions() {
        Check.sentence("Analysis", "a method that changes the program or the settings (no other one)");
        keeps("blockCount", null, RangePropagator::blockCount);
        keeps("analyze", null, RangePropagator::analyze);
        keeps("isAnalyzed", null, RangePropagator::isAnalyzed);
        keeps("isReachable", null, p -> p.isReachable(0));
        keeps("entry", null, p -> p.entry(0, 0, false));
        keeps("exit", null, p -> p.exit(0, 0, false));
        keeps("isDead", null, p -> p.isDead(0, 0));
        keeps("deadEdges", null, RangePropagator::deadEdges);
        keeps("constants", null, p -> p.constants(0));
        keeps("visits", null, p -> p.visits(0));
        keeps("run", null, p -> p.run(1, 300));
        keeps("run", Check.ARGUMENT, p -> p.run(1, 301));
        keeps("enteredBlock", null, p -> p.enteredBlock(0));
        keeps("enteredWith", null, p -> p.enteredWith(0, 0));
        keeps("result", null, p -> p.result(0));
        keeps("digest", null, RangePropagator::digest);
        // An execution of another program leaves the analysis as it is, though not the results.
        RangePropagator q = analyzed();
        q.run(7, 2);
        Check.yes("a run of another length", q.isAnalyzed());
        Check.equal("a run of another length", q.entry(2, 0, true), 9);
    }
}
