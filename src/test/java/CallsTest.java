/** The section "What it is": the 512th call of an object answers as due, whichever it is. */
public final class CallsTest {
    private static final int CALLS = 512;

    private interface Answer {
        long get();
    }

    public static void main(String[] args) {
        Check.sentence("What it is", "An object is used for at most 512 calls after it has been made");
        Check.all("CallsTest",
                CallsTest::building,
                CallsTest::settings,
                CallsTest::asking,
                CallsTest::analyzing,
                CallsTest::executing,
                CallsTest::refusing,
                CallsTest::refillingABlock);
    }

    /** Calls until the object has been called 512 times; each time the same answer is due. */
    private static void upTo512(String what, int made, long due, Answer call) {
        for (int number = made + 1; number <= CALLS; number++) {
            Check.equal(what + " as call " + number, call.get(), due);
        }
    }

    private static long bit(boolean answer) {
        return answer ? 1 : 0;
    }

    private static void building() {
        RangePropagator p = Programs.ofBlocks(15);
        upTo512("blockCount", 14, 15, p::blockCount);
        RangePropagator q = Programs.ofBlocks(15);
        upTo512("clear", 14, 0, () -> q.clear(14));
        RangePropagator late = Programs.ofBlocks(15);
        for (int number = 15; number < CALLS; number++) {
            late.clear(14);
        }
        Check.equal("addBlock as call 512", late.addBlock(), 15);
        RangePropagator r = new RangePropagator();
        r.setInitial(5, 1, 2);
        upTo512("setInitial", 1, 0, () -> bit(r.setInitial(5, 1, 2)));
        RangePropagator s = new RangePropagator();
        s.jump(0, 0);
        upTo512("jump", 1, 1, () -> s.jump(0, 0));
        RangePropagator t = new RangePropagator();
        t.branch(0, 1, 2, 3, 0, 0);
        upTo512("branch", 1, 2, () -> t.branch(0, 1, 2, 3, 0, 0));
    }

    private static void settings() {
        RangePropagator p = new RangePropagator();
        p.setEffort(10, 5);
        upTo512("setEffort", 1, 0, () -> bit(p.setEffort(10, 5)));
        RangePropagator q = new RangePropagator();
        upTo512("addThreshold", 0, 1, () -> q.addThreshold(7));
        RangePropagator late = new RangePropagator();
        for (int number = 1; number < CALLS; number++) {
            late.addThreshold(number % 7);
        }
        Check.equal("addThreshold as call 512", late.addThreshold(7), 8);
    }

    /** The counting loop takes 9 calls, its analysis one more. */
    private static RangePropagator analyzed() {
        RangePropagator p = Programs.counting(10);
        p.analyze();
        return p;
    }

    private static void asking() {
        RangePropagator p = analyzed();
        upTo512("isAnalyzed", 10, 1, () -> bit(p.isAnalyzed()));
        RangePropagator q = analyzed();
        upTo512("isReachable", 10, 1, () -> bit(q.isReachable(3)));
        RangePropagator r = analyzed();
        upTo512("entry", 10, 9, () -> r.entry(2, 0, true));
        RangePropagator s = analyzed();
        upTo512("exit", 10, 10, () -> s.exit(2, 0, true));
        RangePropagator t = analyzed();
        upTo512("isDead", 10, 0, () -> bit(t.isDead(1, 1)));
        RangePropagator u = analyzed();
        upTo512("deadEdges", 10, 0, u::deadEdges);
        RangePropagator v = analyzed();
        upTo512("constants", 10, 5, () -> v.constants(3));
        RangePropagator w = analyzed();
        upTo512("visits", 10, 3, () -> w.visits(1));
        RangePropagator x = analyzed();
        long digest = x.digest();
        upTo512("digest", 11, digest, x::digest);
    }

    private static void analyzing() {
        RangePropagator p = Programs.counting(10);
        upTo512("analyze", 9, 4, p::analyze);
        RangePropagator q = Programs.downwards();
        upTo512("analyze, 16 blocks", 30, 16, q::analyze);
    }

    private static void executing() {
        RangePropagator p = Programs.drifting();
        upTo512("run", 6, 300, () -> p.run(1, 300));
        RangePropagator q = Programs.drifting();
        q.run(1, 300);
        upTo512("enteredBlock", 7, 1, () -> q.enteredBlock(299));
        RangePropagator r = Programs.drifting();
        r.run(1, 300);
        upTo512("enteredWith", 7, 298, () -> r.enteredWith(299, 0));
        RangePropagator s = Programs.drifting();
        s.run(1, 300);
        upTo512("result", 7, -299, () -> s.result(1));
    }

    /** A call that throws is a call, too. */
    private static void refusing() {
        RangePropagator p = Programs.ofBlocks(16);
        for (int number = 16; number < CALLS; number++) {
            Check.yes("addBlock as call " + number, Check.thrownBy(p::addBlock) == Check.STATE);
        }
        Check.equal("blockCount as call 512", p.blockCount(), 16);
        RangePropagator q = new RangePropagator();
        for (int number = 1; number < CALLS; number++) {
            Check.yes("entry as call " + number, Check.thrownBy(() -> q.entry(0, 0, true)) == Check.STATE);
        }
        Check.equal("analyze as call 512", q.analyze(), 2);
    }

    /** 56 times 8 statements and a clear are 504 calls. */
    private static void refillingABlock() {
        RangePropagator p = new RangePropagator();
        for (int filling = 0; filling < 56; filling++) {
            for (int count = 1; count <= 8; count++) {
                int got = count % 2 == 0 ? p.compute(0, 1, 1, 1, 0) : p.input(0, 0, count, count);
                Check.equal("statements, filling " + filling, got, count);
            }
            Check.equal("clear, filling " + filling, p.clear(0), 8);
        }
        for (int count = 1; count <= 7; count++) {
            Check.equal("statements at the end", p.input(0, 5, 0, count), count);
        }
        Check.equal("input as call 512", p.input(0, 5, 0, 8), 8);
    }
}
