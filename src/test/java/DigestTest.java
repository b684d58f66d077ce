/** Promise 25: the checksum. */
public final class DigestTest {
    public static void main(String[] args) {
        RangePropagator p = new RangePropagator();
        Check.equal("25 a new object", p.digest(), of(1, 0, 0, 2, 1, 0, 0, 0, 0, 0, 0, 0));
        p.analyze();
        Check.equal("25 analyzed", p.digest(),
                of(1, 0, 0, 2, 1, 0, 1, 0, 0, 0, 0, 0, 0, 0, 0, 0, 0, 0, 0, 0, 0, 0, 0, 0, 0));
        p.addBlock();
        p.addBlock();
        p.setInitial(0, -5, 8);
        p.setInitial(5, 3, 3);
        p.input(0, 1, 4, 9);
        p.compute(0, 0, 2, 1, 1);
        p.branch(0, 1, 1, 2, 1, 1);
        p.jump(1, 1);
        p.setEffort(4, 3);
        p.addThreshold(-6);
        p.addThreshold(60);
        p.addThreshold(60);
        Check.equal("25 built", p.digest(), of(3, 2, 2, 0, 1, 0, 0, 4, 3, 2, 0, 0, 0, 0, 0, 0));
        p.analyze();
        Check.equal("25 with ranges, but none of block 2", p.digest(), of(3, 2, 2, 0, 1, 0, 0, 4, 3, 2,
                1, -5, 8, 0, 0, 0, 0, 0, 0, 0, 0, 3, 3,
                1, -5, 8, 4, 9, 4, 9, 0, 0, 0, 0, 3, 3,
                0,
                0, 0, 0, 0, 0, 0));
        p.run(0, 1);
        // r is 0 for variable 0; the INPUT takes what six turns make of it.
        long r = 0;
        for (int i = 0; i < 6; i++) {
            r = r * 6364136223846793005L + 1442695040888963407L;
        }
        int chosen = 4 + (int) Math.floorMod(r, 6L);
        p.addBlock();
        Check.equal("25 executed", p.digest(),
                of(4, 2, 2, 0, 1, 0, 0, 0, 0, 4, 3, 2, -5, chosen, chosen, 0, 0, 3));
        Check.equal("25 again", p.digest(), p.digest());
        Check.end("DigestTest");
    }

    private static long of(long... numbers) {
        long d = 89;
        for (long x : numbers) {
            d = d * 31 + x;
        }
        return d;
    }
}
