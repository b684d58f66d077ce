import java.util.List;

/** The two sentences on exceptions behind the description. */
public final class ExceptionsTest {
    private static final int STEPS = 6;

    private interface CallOn {
        void make(RangePropagator p);
    }

    public static void main(String[] args) {
        Check.all("ExceptionsTest",
                ExceptionsTest::throwingChangesNothing,
                ExceptionsTest::theFirstOfIndexAndArgument,
                ExceptionsTest::theFirstOfThreeInInput,
                ExceptionsTest::theFirstOfThreeInCompute,
                ExceptionsTest::theFirstOfArgumentAndState,
                ExceptionsTest::theFirstOfStateAndIndex,
                ExceptionsTest::theFirstOfIndexAndElement);
    }

    /** Block 0 has 8 statements, block 3 is not reachable; there are 8 thresholds and an execution of six steps. */
    private static RangePropagator full(boolean isAnalyzed) {
        RangePropagator p = Programs.counting(10);
        p.setInitial(4, -3, 8);
        p.input(0, 5, 0, 99);
        for (int count = 4; count <= 8; count++) {
            p.compute(0, count - 3, 3, 4, 5);
        }
        p.branch(1, 0, 1, 1, 2, 2);
        for (int threshold = 1; threshold <= 8; threshold++) {
            p.addThreshold(threshold * 7 - 30);
        }
        p.setEffort(3, 2);
        p.run(5, STEPS);
        if (isAnalyzed) {
            p.analyze();
        }
        return p;
    }

    private static void changesNothing(String what, Class<?> due, CallOn call) {
        for (int time = 0; time < 2; time++) {
            boolean isAnalyzed = time == 0;
            RangePropagator twin = full(isAnalyzed);
            RangePropagator p = full(isAnalyzed);
            Check.yes(what + " throws " + due, Check.thrownBy(() -> call.make(p)) == due);
            same(what, Observed.of(p, STEPS + 1), Observed.of(twin, STEPS + 1));
            same(what + ", anew", Observed.anew(p, 60), Observed.anew(twin, 60));
            Check.no(what + ": the effort", p.setEffort(3, 2));
            Check.no(what + ": an initial range", p.setInitial(4, -3, 8));
        }
    }

    private static void same(String what, List<String> got, List<String> due) {
        for (int at = 0; at < due.size(); at++) {
            boolean isSame = got.get(at).equals(due.get(at));
            Check.yes(what + " has changed something: " + got.get(at) + ", due is " + due.get(at), isSame);
        }
    }

    private static void throwingChangesNothing() {
        Check.sentence("Exceptions", "A method that throws an exception changes nothing.");
        changesNothing("setInitial", Check.INDEX, p -> p.setInitial(6, 1, 2));
        changesNothing("setInitial, low", Check.ARGUMENT, p -> p.setInitial(4, Check.LEAST - 1, 2));
        changesNothing("setInitial, high", Check.ARGUMENT, p -> p.setInitial(4, 1, Check.GREATEST + 1));
        changesNothing("setInitial, both", Check.ARGUMENT, p -> p.setInitial(4, 3, 2));
        changesNothing("input, block", Check.INDEX, p -> p.input(4, 0, 1, 2));
        changesNothing("input, variable", Check.INDEX, p -> p.input(2, 6, 1, 2));
        changesNothing("input, range", Check.ARGUMENT, p -> p.input(2, 0, 2, 1));
        changesNothing("input, full", Check.STATE, p -> p.input(0, 0, 1, 2));
        changesNothing("compute, block", Check.INDEX, p -> p.compute(-1, 0, 0, 1, 2));
        changesNothing("compute, x", Check.INDEX, p -> p.compute(2, 0, 6, 1, 2));
        changesNothing("compute, z", Check.INDEX, p -> p.compute(2, 0, 0, 1, 6));
        changesNothing("compute, kind", Check.ARGUMENT, p -> p.compute(2, 6, 0, 1, 2));
        changesNothing("compute, full", Check.STATE, p -> p.compute(0, 1, 0, 1, 2));
        changesNothing("jump, block", Check.INDEX, p -> p.jump(4, 0));
        changesNothing("jump, a", Check.INDEX, p -> p.jump(0, 4));
        changesNothing("branch, block", Check.INDEX, p -> p.branch(-1, 0, 0, 1, 2, 3));
        changesNothing("branch, b", Check.INDEX, p -> p.branch(0, 0, 0, 1, 2, 4));
        changesNothing("branch, y", Check.INDEX, p -> p.branch(0, 0, 0, 6, 2, 3));
        changesNothing("branch, relation", Check.ARGUMENT, p -> p.branch(0, 0, 4, 1, 2, 3));
        changesNothing("clear", Check.INDEX, p -> p.clear(4));
        changesNothing("setEffort, delay", Check.ARGUMENT, p -> p.setEffort(11, 5));
        changesNothing("setEffort, narrowings", Check.ARGUMENT, p -> p.setEffort(10, 6));
        changesNothing("addThreshold", Check.ARGUMENT, p -> p.addThreshold(Check.LEAST));
        changesNothing("addThreshold, full", Check.STATE, p -> p.addThreshold(2));
        changesNothing("run, none", Check.ARGUMENT, p -> p.run(9, 0));
        changesNothing("run, too many", Check.ARGUMENT, p -> p.run(9, 301));
        changesNothing("enteredBlock", Check.INDEX, p -> p.enteredBlock(STEPS));
        changesNothing("enteredWith, step", Check.INDEX, p -> p.enteredWith(STEPS, 0));
        changesNothing("enteredWith, variable", Check.INDEX, p -> p.enteredWith(0, 6));
        changesNothing("result", Check.INDEX, p -> p.result(-1));
        addBlockChangesNothing();
        questionsChangeNothing();
    }

    private static void addBlockChangesNothing() {
        RangePropagator p = Programs.downwards();
        p.analyze();
        Check.refused("addBlock", p, Check.STATE, p::addBlock);
        Check.equal("addBlock: the blocks", p.blockCount(), 16);
        Check.equal("addBlock: the program", p.analyze(), 16);
        Check.equal("addBlock: the last block", p.jump(15, 0), 1);
    }

    /** With an analysis they ask for what is not there, without one for anything. */
    private static void questionsChangeNothing() {
        for (int time = 0; time < 2; time++) {
            boolean isAnalyzed = time == 0;
            Class<? extends RuntimeException> due = isAnalyzed ? Check.INDEX : Check.STATE;
            RangePropagator p = full(isAnalyzed);
            Check.refused("isReachable", p, due, () -> p.isReachable(4));
            Check.refused("entry", p, due, () -> p.entry(0, 6, true));
            Check.refused("exit", p, due, () -> p.exit(4, 0, true));
            Check.refused("isDead", p, due, () -> p.isDead(0, 1));
            Check.refused("constants", p, due, () -> p.constants(-1));
            Check.refused("visits", p, due, () -> p.visits(4));
            Check.refused("entry of none", p, isAnalyzed ? Check.ELEMENT : Check.STATE, () -> p.entry(3, 0, true));
            Check.refused("exit of none", p, isAnalyzed ? Check.ELEMENT : Check.STATE, () -> p.exit(3, 0, true));
            same("questions", Observed.of(p, STEPS + 1), Observed.of(full(isAnalyzed), STEPS + 1));
        }
        RangePropagator q = full(false);
        Check.refused("deadEdges", q, Check.STATE, q::deadEdges);
        Check.no("deadEdges makes no analysis", q.isAnalyzed());
    }

    private static void theFirstOfIndexAndArgument() {
        Check.sentence("Exceptions", "If several exceptions apply, the one that is named first is thrown. "
                + "(IndexOutOfBounds, IllegalArgument)");
        RangePropagator p = full(true);
        for (int bad : new int[] {-1, 6}) {
            Check.refused("setInitial, order", p, Check.INDEX, () -> p.setInitial(bad, 1, 0));
            Check.refused("setInitial, low", p, Check.INDEX, () -> p.setInitial(bad, Check.LEAST - 1, 0));
            Check.refused("setInitial, high", p, Check.INDEX, () -> p.setInitial(bad, 0, Check.GREATEST + 1));
            Check.refused("branch, x", p, Check.INDEX, () -> p.branch(0, bad, 4, 0, 0, 0));
            Check.refused("branch, y", p, Check.INDEX, () -> p.branch(0, 0, 4, bad, 0, 0));
        }
        for (int bad : new int[] {-1, 4}) {
            Check.refused("branch, block", p, Check.INDEX, () -> p.branch(bad, 0, -1, 0, 0, 0));
            Check.refused("branch, a", p, Check.INDEX, () -> p.branch(0, 0, 4, 0, bad, 0));
            Check.refused("branch, b", p, Check.INDEX, () -> p.branch(0, 0, -1, 0, 0, bad));
        }
    }

    private static void theFirstOfThreeInInput() {
        Check.sentence("Exceptions", "If several exceptions apply, the one that is named first is thrown. "
                + "(input: IndexOutOfBounds, IllegalArgument, IllegalState)");
        RangePropagator p = full(true);
        for (int block : new int[] {-1, 4}) {
            Check.refused("block, range", p, Check.INDEX, () -> p.input(block, 0, 1, 0));
        }
        for (int x : new int[] {-1, 6}) {
            Check.refused("variable, range", p, Check.INDEX, () -> p.input(2, x, 1, 0));
            Check.refused("variable, full", p, Check.INDEX, () -> p.input(0, x, 0, 1));
            Check.refused("variable, range, full", p, Check.INDEX, () -> p.input(0, x, 1, 0));
        }
        Check.refused("order, full", p, Check.ARGUMENT, () -> p.input(0, 0, 1, 0));
        Check.refused("low, full", p, Check.ARGUMENT, () -> p.input(0, 0, Check.LEAST - 1, 0));
        Check.refused("high, full", p, Check.ARGUMENT, () -> p.input(0, 0, 0, Check.GREATEST + 1));
        Check.refused("full alone", p, Check.STATE, () -> p.input(0, 0, 0, 1));
    }

    private static void theFirstOfThreeInCompute() {
        Check.sentence("Exceptions", "If several exceptions apply, the one that is named first is thrown. "
                + "(compute: IndexOutOfBounds, IllegalArgument, IllegalState)");
        RangePropagator p = full(true);
        for (int block : new int[] {-1, 4}) {
            Check.refused("block, kind", p, Check.INDEX, () -> p.compute(block, 6, 0, 0, 0));
        }
        for (int bad : new int[] {-1, 6}) {
            Check.refused("x, kind", p, Check.INDEX, () -> p.compute(2, bad, bad, 0, 0));
            Check.refused("y, kind", p, Check.INDEX, () -> p.compute(2, bad, 0, bad, 0));
            Check.refused("z, kind", p, Check.INDEX, () -> p.compute(2, bad, 0, 0, bad));
            Check.refused("x, full", p, Check.INDEX, () -> p.compute(0, 0, bad, 0, 0));
            Check.refused("y, full", p, Check.INDEX, () -> p.compute(0, 0, 0, bad, 0));
            Check.refused("z, full", p, Check.INDEX, () -> p.compute(0, 0, 0, 0, bad));
            Check.refused("z, kind, full", p, Check.INDEX, () -> p.compute(0, bad, 0, 0, bad));
            Check.refused("kind, full", p, Check.ARGUMENT, () -> p.compute(0, bad, 0, 0, 0));
        }
        Check.refused("full alone", p, Check.STATE, () -> p.compute(0, 0, 0, 0, 0));
    }

    private static void theFirstOfArgumentAndState() {
        Check.sentence("Exceptions", "If several exceptions apply, the one that is named first is thrown. "
                + "(addThreshold: IllegalArgument, IllegalState)");
        RangePropagator p = full(true);
        Check.refusedFor("with 8 thresholds", p, Check.ARGUMENT, p::addThreshold,
                Check.LEAST, Check.GREATEST, Check.MIN, Check.MAX);
        Check.refusedFor("with 8 thresholds", p, Check.STATE, p::addThreshold, Check.LEAST + 1, Check.GREATEST - 1);
    }

    private static void theFirstOfStateAndIndex() {
        Check.sentence("Exceptions", "If several exceptions apply, the one that is named first is thrown. "
                + "(IllegalState, IndexOutOfBounds)");
        RangePropagator p = full(false);
        for (int block : new int[] {-1, 4}) {
            Check.refused("isReachable", p, Check.STATE, () -> p.isReachable(block));
            Check.refused("entry, block", p, Check.STATE, () -> p.entry(block, 0, false));
            Check.refused("exit, block", p, Check.STATE, () -> p.exit(block, 0, false));
            Check.refused("isDead, block", p, Check.STATE, () -> p.isDead(block, 0));
            Check.refused("constants", p, Check.STATE, () -> p.constants(block));
            Check.refused("visits", p, Check.STATE, () -> p.visits(block));
        }
        for (int bad : new int[] {-1, 6}) {
            Check.refused("entry, variable", p, Check.STATE, () -> p.entry(0, bad, true));
            Check.refused("exit, variable", p, Check.STATE, () -> p.exit(0, bad, true));
            Check.refused("isDead, edge", p, Check.STATE, () -> p.isDead(0, bad));
        }
    }

    private static void theFirstOfIndexAndElement() {
        Check.sentence("Exceptions", "If several exceptions apply, the one that is named first is thrown. "
                + "(IndexOutOfBounds, NoSuchElement)");
        RangePropagator p = full(true);
        for (int bad : new int[] {-1, 6}) {
            Check.refused("entry", p, Check.INDEX, () -> p.entry(3, bad, false));
            Check.refused("exit", p, Check.INDEX, () -> p.exit(3, bad, true));
        }
        Check.refused("entry of none alone", p, Check.ELEMENT, () -> p.entry(3, 5, false));
        Check.refused("exit of none alone", p, Check.ELEMENT, () -> p.exit(3, 5, true));
    }
}
