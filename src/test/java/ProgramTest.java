/** Promises 1 to 9: the program is built. */
public final class ProgramTest {
    private static final Class<IndexOutOfBoundsException> NO_INDEX = IndexOutOfBoundsException.class;
    private static final Class<IllegalArgumentException> NO_ARGUMENT = IllegalArgumentException.class;
    private static final Class<IllegalStateException> NO_STATE = IllegalStateException.class;
    private static final int MIN = Integer.MIN_VALUE;
    private static final int MAX = Integer.MAX_VALUE;
    private static final int LEAST = -1000000000;
    private static final int GREATEST = 1000000000;

    public static void main(String[] args) {
        newObject();
        addBlock();
        setInitial();
        input();
        compute();
        statementsAreLimited();
        jump();
        branch();
        clear();
        changesDropTheAnalysis();
        Check.end("ProgramTest");
    }

    private static void newObject() {
        RangePropagator p = new RangePropagator();
        Check.equal("1 blockCount", p.blockCount(), 1);
        Check.no("1 isAnalyzed", p.isAnalyzed());
        Check.equal("1 clear: statements", p.clear(0), 0);
        Check.equal("1 jump: edges before", p.jump(0, 0), 0);
        RangePropagator q = new RangePropagator();
        Check.equal("1 analyze", q.analyze(), 2);
        Check.equal("1 constants", q.constants(0), 6);
        Check.equal("1 entry low", q.entry(0, 5, false), 0);
        Check.equal("1 entry high", q.entry(0, 5, true), 0);
        Check.equal("1 run", q.run(3, 300), 1);
    }

    private static void addBlock() {
        RangePropagator p = new RangePropagator();
        for (int i = 1; i < 16; i++) {
            Check.equal("2 addBlock", p.addBlock(), i);
            Check.equal("9 blockCount", p.blockCount(), i + 1);
            Check.equal("2 statements of a new block", p.clear(i), 0);
            Check.equal("2 edges of a new block", p.jump(i, 0), 0);
        }
        p.analyze();
        Check.refused("2 addBlock, the 17th", p, NO_STATE, p::addBlock);
        Check.equal("9 blockCount", p.blockCount(), 16);
    }

    private static void setInitial() {
        RangePropagator p = new RangePropagator();
        Check.no("3 the first range", p.setInitial(0, 0, 0));
        Check.yes("3 another high", p.setInitial(0, 0, 1));
        Check.no("3 the same", p.setInitial(0, 0, 1));
        Check.yes("3 another low", p.setInitial(0, -1, 1));
        Check.no("3 another variable is unchanged", p.setInitial(5, 0, 0));
        Check.yes("3 widest", p.setInitial(5, LEAST, GREATEST));
        Check.yes("3 all at the least", p.setInitial(4, LEAST, LEAST));
        Check.yes("3 all at the greatest", p.setInitial(3, GREATEST, GREATEST));
        p.analyze();
        Check.equal("3 entry", p.entry(0, 0, false), -1);
        Check.equal("3 entry", p.entry(0, 0, true), 1);
        Check.equal("3 entry", p.entry(0, 5, false), LEAST);
        Check.equal("3 entry", p.entry(0, 5, true), GREATEST);
        Check.equal("3 entry", p.entry(0, 4, true), LEAST);
        Check.equal("3 entry", p.entry(0, 3, false), GREATEST);
        for (int variable : new int[] {-1, 6, MIN, MAX}) {
            Check.refused("3 variable", p, NO_INDEX, () -> p.setInitial(variable, 0, 0));
            Check.refused("3 variable first", p, NO_INDEX, () -> p.setInitial(variable, 1, 0));
        }
        for (int[] r : badRanges()) {
            Check.refused("3 range", p, NO_ARGUMENT, () -> p.setInitial(0, r[0], r[1]));
        }
        Check.no("3 a refused call changed nothing", p.setInitial(0, -1, 1));
    }

    private static int[][] badRanges() {
        return new int[][] {
            {1, 0}, {LEAST - 1, 0}, {0, GREATEST + 1}, {LEAST - 1, GREATEST + 1}, {MIN, MAX}, {MAX, MIN},
            {GREATEST + 1, GREATEST + 1}, {LEAST - 1, LEAST - 1}, {GREATEST, LEAST}, {MIN, MIN}, {MAX, MAX}
        };
    }

    private static void input() {
        RangePropagator p = new RangePropagator();
        p.addBlock();
        Check.equal("4 input", p.input(0, 0, -5, 5), 1);
        Check.equal("4 input", p.input(0, 5, LEAST, GREATEST), 2);
        Check.equal("4 input of one integer", p.input(0, 1, 7, 7), 3);
        Check.equal("4 input in another block", p.input(1, 1, 7, 7), 1);
        p.analyze();
        Check.equal("4 exit", p.exit(0, 0, false), -5);
        Check.equal("4 exit", p.exit(0, 0, true), 5);
        Check.equal("4 exit", p.exit(0, 5, false), LEAST);
        Check.equal("4 exit", p.exit(0, 5, true), GREATEST);
        Check.equal("4 exit", p.exit(0, 1, false), 7);
        Check.equal("4 exit", p.exit(0, 1, true), 7);
        Check.equal("4 exit of an untouched variable", p.exit(0, 2, true), 0);
        for (int bad : new int[] {-1, 2, 16, MIN, MAX}) {
            Check.refused("4 block", p, NO_INDEX, () -> p.input(bad, 0, 0, 0));
            Check.refused("4 block first", p, NO_INDEX, () -> p.input(bad, 0, 1, 0));
        }
        for (int bad : new int[] {-1, 6, MIN, MAX}) {
            Check.refused("4 variable", p, NO_INDEX, () -> p.input(0, bad, 0, 0));
            Check.refused("4 variable first", p, NO_INDEX, () -> p.input(0, bad, 1, 0));
        }
        for (int[] r : badRanges()) {
            Check.refused("4 range", p, NO_ARGUMENT, () -> p.input(0, 0, r[0], r[1]));
        }
    }

    private static void compute() {
        RangePropagator p = new RangePropagator();
        for (int kind = 0; kind < 6; kind++) {
            Check.equal("5 compute", p.compute(0, kind, 5, 0, 5), kind + 1);
        }
        p.analyze();
        for (int bad : new int[] {-1, 1, 16, MIN, MAX}) {
            Check.refused("5 block", p, NO_INDEX, () -> p.compute(bad, 0, 0, 0, 0));
            Check.refused("5 block first", p, NO_INDEX, () -> p.compute(bad, 6, 0, 0, 0));
        }
        for (int bad : new int[] {-1, 6, MIN, MAX}) {
            Check.refused("5 x", p, NO_INDEX, () -> p.compute(0, 1, bad, 0, 0));
            Check.refused("5 y", p, NO_INDEX, () -> p.compute(0, 1, 0, bad, 0));
            Check.refused("5 z", p, NO_INDEX, () -> p.compute(0, 1, 0, 0, bad));
            Check.refused("5 z of a COPY", p, NO_INDEX, () -> p.compute(0, 0, 0, 0, bad));
            Check.refused("5 kind", p, NO_ARGUMENT, () -> p.compute(0, bad, 0, 0, 0));
            Check.refused("5 variable before kind", p, NO_INDEX, () -> p.compute(0, bad, 0, 0, 6));
        }
    }

    private static void statementsAreLimited() {
        RangePropagator p = new RangePropagator();
        for (int i = 1; i <= 8; i++) {
            Check.equal("4 and 5 count together", i % 2 == 0 ? p.input(0, 0, 0, i) : p.compute(0, 0, 1, 0, 0), i);
        }
        p.analyze();
        Check.refused("4 the ninth", p, NO_STATE, () -> p.input(0, 0, 0, 0));
        Check.refused("4 range first", p, NO_ARGUMENT, () -> p.input(0, 0, 1, 0));
        Check.refused("4 variable first", p, NO_INDEX, () -> p.input(0, 6, 1, 0));
        Check.refused("5 the ninth", p, NO_STATE, () -> p.compute(0, 0, 0, 0, 0));
        Check.refused("5 kind first", p, NO_ARGUMENT, () -> p.compute(0, 6, 0, 0, 0));
        Check.refused("5 variable first", p, NO_INDEX, () -> p.compute(0, 6, 0, -1, 0));
        Check.equal("4 all eight are done", p.exit(0, 0, true), 8);
        Check.equal("5 all eight are done", p.exit(0, 1, true), 6);
    }

    private static void jump() {
        RangePropagator p = new RangePropagator();
        p.addBlock();
        Check.equal("6 of a RETURN", p.jump(0, 1), 0);
        Check.equal("6 of a JUMP", p.jump(0, 0), 1);
        p.branch(0, 0, 0, 1, 0, 1);
        Check.equal("6 of a BRANCH", p.jump(0, 1), 2);
        p.analyze();
        Check.yes("6 the block behind it", p.isReachable(1));
        for (int bad : new int[] {-1, 2, 16, MIN, MAX}) {
            Check.refused("6 block", p, NO_INDEX, () -> p.jump(bad, 0));
            Check.refused("6 a", p, NO_INDEX, () -> p.jump(0, bad));
        }
    }

    private static void branch() {
        RangePropagator p = new RangePropagator();
        p.addBlock();
        Check.equal("7 of a RETURN", p.branch(0, 0, 0, 1, 0, 1), 0);
        Check.equal("7 of a BRANCH", p.branch(0, 0, 1, 1, 1, 1), 2);
        p.jump(0, 1);
        Check.equal("7 of a JUMP", p.branch(0, 5, 3, 5, 1, 0), 1);
        p.analyze();
        for (int bad : new int[] {-1, 2, 16, MIN, MAX}) {
            Check.refused("7 block", p, NO_INDEX, () -> p.branch(bad, 0, 0, 0, 0, 0));
            Check.refused("7 a", p, NO_INDEX, () -> p.branch(0, 0, 0, 0, bad, 0));
            Check.refused("7 b", p, NO_INDEX, () -> p.branch(0, 0, 0, 0, 0, bad));
            Check.refused("7 b before relation", p, NO_INDEX, () -> p.branch(0, 0, 4, 0, 0, bad));
        }
        for (int bad : new int[] {-1, 6, MIN, MAX}) {
            Check.refused("7 x", p, NO_INDEX, () -> p.branch(0, bad, 0, 0, 0, 0));
            Check.refused("7 y", p, NO_INDEX, () -> p.branch(0, 0, 0, bad, 0, 0));
            Check.refused("7 y before relation", p, NO_INDEX, () -> p.branch(0, 0, -1, bad, 0, 0));
        }
        for (int bad : new int[] {-1, 4, MIN, MAX}) {
            Check.refused("7 relation", p, NO_ARGUMENT, () -> p.branch(0, 0, bad, 0, 0, 0));
        }
    }

    private static void clear() {
        RangePropagator p = new RangePropagator();
        p.addBlock();
        p.input(0, 0, 1, 2);
        p.input(0, 1, 1, 2);
        p.branch(0, 0, 0, 1, 1, 1);
        p.analyze();
        for (int bad : new int[] {-1, 2, 16, MIN, MAX}) {
            Check.refused("8 block", p, NO_INDEX, () -> p.clear(bad));
        }
        Check.equal("8 clear", p.clear(0), 2);
        Check.equal("8 clear again", p.clear(0), 0);
        Check.equal("8 blockCount", p.blockCount(), 2);
        p.analyze();
        Check.equal("8 no statements", p.exit(0, 0, true), 0);
        Check.no("8 no edges", p.isReachable(1));
        Check.refused("8 no edge", p, NO_INDEX, () -> p.isDead(0, 0));
        Check.equal("8 a RETURN", p.jump(0, 1), 0);
        Check.equal("8 room again", p.input(0, 0, 3, 4), 1);
        p.analyze();
        Check.equal("8 the new statement", p.exit(0, 0, true), 4);
        Check.equal("8 the old one is gone", p.exit(0, 1, true), 0);
    }

    private static void changesDropTheAnalysis() {
        RangePropagator p = new RangePropagator();
        dropped("addBlock", p, p::addBlock);
        dropped("setInitial", p, () -> p.setInitial(0, 0, 0));
        dropped("input", p, () -> p.input(0, 0, 0, 0));
        dropped("compute", p, () -> p.compute(0, 0, 0, 0, 0));
        dropped("jump", p, () -> p.jump(0, 1));
        dropped("jump, the same", p, () -> p.jump(0, 1));
        dropped("branch", p, () -> p.branch(0, 0, 0, 0, 0, 0));
        dropped("branch, the same", p, () -> p.branch(0, 0, 0, 0, 0, 0));
        dropped("clear", p, () -> p.clear(1));
        dropped("setEffort, the same", p, () -> p.setEffort(2, 1));
        dropped("addThreshold", p, () -> p.addThreshold(4));
        dropped("addThreshold, the same", p, () -> p.addThreshold(4));
        p.analyze();
        p.blockCount();
        p.run(1, 300);
        p.enteredBlock(0);
        p.enteredWith(0, 0);
        p.result(0);
        p.digest();
        Check.yes("the analysis is kept", p.isAnalyzed());
    }

    private static void dropped(String what, RangePropagator p, Check.Call call) {
        p.analyze();
        Check.yes(what + ": before", p.isAnalyzed());
        call.make();
        Check.no(what + " drops the analysis", p.isAnalyzed());
    }
}
