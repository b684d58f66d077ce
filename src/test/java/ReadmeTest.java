/** The example of README.md, so that it stays true. */
public final class ReadmeTest {
    public static void main(String[] args) {
        RangePropagator p = new RangePropagator();
        int head = p.addBlock();
        int body = p.addBlock();
        int end = p.addBlock();
        p.input(0, 1, 10, 10);
        p.input(0, 2, 1, 1);
        p.jump(0, head);
        p.branch(head, 0, 0, 1, body, end);
        p.compute(body, 1, 0, 0, 2);
        p.jump(body, head);
        p.setEffort(2, 2);
        Check.equal("rounds", p.analyze(), 4);
        Check.equal("high end in the body", p.entry(body, 0, true), 9);
        Check.equal("low end behind the loop", p.entry(end, 0, false), 10);
        Check.equal("steps", p.run(42L, 100), 23);
        Check.equal("result", p.result(0), 10);
        Check.end("ReadmeTest");
    }
}
