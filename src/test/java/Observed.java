import java.util.ArrayList;
import java.util.List;

/** All that an object tells, as a row of texts; a call that throws is told by its exception's name. */
final class Observed {
    private interface Answer {
        long get();
    }

    private final RangePropagator p;
    private final List<String> told = new ArrayList<>();

    private Observed(RangePropagator observed) {
        p = observed;
    }

    /** What can be asked without changing anything, for the first steps of the latest execution. */
    static List<String> of(RangePropagator p, int steps) {
        Observed all = new Observed(p);
        all.tell("blockCount", p::blockCount);
        all.tell("digest", p::digest);
        all.tell("isAnalyzed", () -> p.isAnalyzed() ? 1 : 0);
        all.tell("deadEdges", p::deadEdges);
        for (int block = 0; block < p.blockCount(); block++) {
            all.tellBlock(block);
        }
        for (int step = 0; step < steps; step++) {
            all.tellStep(step);
        }
        return all.told;
    }

    /** What the program and the settings answer when they are analyzed and executed anew. */
    static List<String> anew(RangePropagator p, int steps) {
        Observed all = new Observed(p);
        all.tell("analyze", p::analyze);
        all.tell("run", () -> p.run(-12345, steps));
        all.tell("digest", p::digest);
        return all.told;
    }

    private void tell(String what, Answer answer) {
        String text;
        try {
            text = Long.toString(answer.get());
        } catch (RuntimeException e) {
            text = e.getClass().getName();
        }
        told.add(what + " " + text);
    }

    private void tellBlock(int block) {
        tell("isReachable " + block, () -> p.isReachable(block) ? 1 : 0);
        tell("constants " + block, () -> p.constants(block));
        tell("visits " + block, () -> p.visits(block));
        for (int edge = 0; edge < 2; edge++) {
            int asked = edge;
            tell("isDead " + block + " " + edge, () -> p.isDead(block, asked) ? 1 : 0);
        }
        for (int variable = 0; variable < 6; variable++) {
            int asked = variable;
            tell("entry low " + block + " " + variable, () -> p.entry(block, asked, false));
            tell("entry high " + block + " " + variable, () -> p.entry(block, asked, true));
            tell("exit low " + block + " " + variable, () -> p.exit(block, asked, false));
            tell("exit high " + block + " " + variable, () -> p.exit(block, asked, true));
        }
    }

    private void tellStep(int step) {
        tell("enteredBlock " + step, () -> p.enteredBlock(step));
        for (int variable = 0; variable < 6; variable++) {
            int asked = variable;
            tell("enteredWith " + step + " " + variable, () -> p.enteredWith(step, asked));
        }
    }
}
