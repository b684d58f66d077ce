import java.math.BigInteger;

/** Promise 25, number by number: the checksum. */
public final class DigestTest {
    public static void main(String[] args) {
        Check.all("DigestTest",
                DigestTest::newObject,
                DigestTest::wrapsAround,
                DigestTest::statementsAndEdges,
                DigestTest::sixteenFullBlocks,
                DigestTest::settings,
                DigestTest::analysis,
                DigestTest::analysisIsGone,
                DigestTest::execution,
                DigestTest::digestChangesNothing);
    }

    /** Computed without a wrap-around; the last 64 bits are taken at the end alone. */
    static long of(long... numbers) {
        BigInteger d = BigInteger.valueOf(89);
        for (long x : numbers) {
            d = d.multiply(BigInteger.valueOf(31)).add(BigInteger.valueOf(x));
        }
        return d.longValue();
    }

    private static void newObject() {
        Check.sentence("Promise 25", "A number d starts with 89");
        Check.equal("a new object", new RangePropagator().digest(), of(1, 0, 0, 2, 1, 0, 0, 0, 0, 0, 0, 0));
    }

    private static void wrapsAround() {
        Check.sentence("Promise 25", "d becomes d * 31 + x, which wraps around as a 64-bit integer");
        // Without the wrap-around it is 70127397967372022553; this less 4 times 2 to the 64th.
        Check.equal("a new object", new RangePropagator().digest(), -3659578327466183911L);
        RangePropagator p = new RangePropagator();
        p.setInitial(0, Check.LEAST, Check.LEAST);
        p.setInitial(5, Check.GREATEST, Check.GREATEST);
        p.run(0, 1);
        Check.equal("negative and positive numbers", p.digest(),
                of(1, 0, 0, 2, 1, 0, Check.LEAST, 0, 0, 0, 0, Check.GREATEST));
    }

    private static void statementsAndEdges() {
        Check.sentence("Promise 25", "the number of blocks; for each block the numbers of its statements and of its edges");
        RangePropagator p = Programs.ofBlocks(3);
        Check.equal("three empty blocks", p.digest(), of(3, 0, 0, 0, 0, 0, 0, 2, 1, 0, 0, 0, 0, 0, 0, 0));
        p.input(0, 1, 4, 9);
        p.compute(0, 0, 2, 1, 1);
        p.branch(0, 1, 1, 2, 1, 1);
        p.jump(1, 1);
        p.input(2, 3, 3, 3);
        Check.equal("statements and edges", p.digest(), of(3, 2, 2, 0, 1, 1, 0, 2, 1, 0, 0, 0, 0, 0, 0, 0));
        p.clear(0);
        Check.equal("a cleared block", p.digest(), of(3, 0, 0, 0, 1, 1, 0, 2, 1, 0, 0, 0, 0, 0, 0, 0));
    }

    private static void sixteenFullBlocks() {
        Check.sentence("Promise 25", "for each block the numbers of its statements and of its edges");
        RangePropagator p = Programs.ofBlocks(16);
        long[] numbers = new long[1 + 2 * 16 + 3 + 6];
        numbers[0] = 16;
        for (int block = 0; block < 16; block++) {
            for (int count = 0; count < 8; count++) {
                p.compute(block, 0, 0, 0, 0);
            }
            p.branch(block, 0, 0, 0, 0, 0);
            numbers[1 + 2 * block] = 8;
            numbers[2 + 2 * block] = 2;
        }
        numbers[33] = 2;
        numbers[34] = 1;
        Check.equal("a full program", p.digest(), of(numbers));
    }

    private static void settings() {
        Check.sentence("Promise 25", "the delay, the number of narrowings, the number of thresholds");
        RangePropagator p = new RangePropagator();
        p.setEffort(10, 0);
        Check.equal("delay 10", p.digest(), of(1, 0, 0, 10, 0, 0, 0, 0, 0, 0, 0, 0));
        p.setEffort(0, 5);
        Check.equal("narrowings 5", p.digest(), of(1, 0, 0, 0, 5, 0, 0, 0, 0, 0, 0, 0));
        for (int count = 1; count <= 8; count++) {
            p.addThreshold(count * 60);
            Check.equal("thresholds", p.digest(), of(1, 0, 0, 0, 5, count, 0, 0, 0, 0, 0, 0));
        }
        RangePropagator q = new RangePropagator();
        q.addThreshold(60);
        q.addThreshold(60);
        Check.equal("a threshold that was added already", q.digest(), of(1, 0, 0, 2, 1, 1, 0, 0, 0, 0, 0, 0));
    }

    private static void analysis() {
        Check.sentence("Promise 25", "if there is an analysis, for each block its visits and, if its entry state is not "
                + "\"none\", the low and the high of each variable in it");
        RangePropagator p = Programs.ofBlocks(3);
        p.setInitial(0, -5, 8);
        p.setInitial(5, 3, 3);
        p.input(0, 1, 4, 9);
        p.jump(0, 2);
        p.analyze();
        Check.equal("block 1 is not reachable", p.digest(), of(3, 1, 1, 0, 0, 0, 0, 2, 1, 0,
                1, -5, 8, 0, 0, 0, 0, 0, 0, 0, 0, 3, 3,
                0,
                1, -5, 8, 4, 9, 0, 0, 0, 0, 0, 0, 3, 3,
                0, 0, 0, 0, 0, 0));
        RangePropagator q = Programs.drifting();
        q.analyze();
        Check.equal("visits and widened ends", q.digest(), of(2, 1, 1, 2, 1, 2, 1, 0,
                1, 0, 0, 0, 0, 0, 0, 0, 0, 0, 0, 0, 0,
                3, 0, Check.GREATEST, Check.LEAST, 0, 1, 1, 0, 0, 0, 0, 0, 0,
                0, 0, 0, 0, 0, 0));
    }

    private static void analysisIsGone() {
        Check.sentence("Promise 25", "if there is an analysis");
        RangePropagator p = new RangePropagator();
        long before = p.digest();
        p.analyze();
        Check.equal("there is one", p.digest(),
                of(1, 0, 0, 2, 1, 0, 1, 0, 0, 0, 0, 0, 0, 0, 0, 0, 0, 0, 0, 0, 0, 0, 0, 0, 0));
        p.setEffort(2, 1);
        Check.equal("there is none any more", p.digest(), before);
    }

    private static void execution() {
        Check.sentence("Promise 25", "the integers of the variables at the end of the latest execution");
        RangePropagator p = Programs.counting(3);
        p.setInitial(5, -8, -8);
        long before = p.digest();
        p.run(7, 300);
        Check.equal("to a RETURN", p.digest(), of(4, 2, 1, 0, 2, 1, 1, 0, 0, 2, 1, 0, 3, 3, 1, 0, 0, -8));
        p.run(7, 1);
        Check.equal("the latest one, of one step", p.digest(), of(4, 2, 1, 0, 2, 1, 1, 0, 0, 2, 1, 0, 0, 3, 1, 0, 0, -8));
        p.clear(3);
        Check.equal("it stays when the program changes", p.digest(),
                of(4, 2, 1, 0, 2, 1, 1, 0, 0, 2, 1, 0, 0, 3, 1, 0, 0, -8));
        Check.equal("no execution: six times 0", before, of(4, 2, 1, 0, 2, 1, 1, 0, 0, 2, 1, 0, 0, 0, 0, 0, 0, 0));
    }

    private static void digestChangesNothing() {
        Check.sentence("Promise 25", "Returns d.");
        RangePropagator p = Programs.counting(3);
        p.analyze();
        p.run(7, 300);
        long digest = p.digest();
        Check.equal("asked again", p.digest(), digest);
        Check.yes("the analysis stays", p.isAnalyzed());
        Check.equal("the execution stays", p.enteredBlock(2), 2);
    }
}
