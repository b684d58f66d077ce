import java.util.ArrayList;
import java.util.List;
import java.util.NoSuchElementException;
import java.util.TreeSet;

/** The document once more, written for plainness with the whole library, to compare answers with. */
final class Reference {
    private static final long LEAST = -1000000000L;
    private static final long GREATEST = 1000000000L;

    private static final class Body {
        final List<long[]> statements = new ArrayList<>(); // kind (6 INPUT, 7 SET), x, y or low, z or high
        int[] targets = {};
        int x;
        int relation;
        int y;
    }

    // A state is null for "none", else {low, high} for each variable.
    private final List<Body> blocks = new ArrayList<>(List.of(new Body()));
    private final long[][] initial = new long[6][2];
    private int delay = 2;
    private int narrowings = 1;
    private final TreeSet<Long> thresholds = new TreeSet<>(List.of(LEAST, GREATEST));
    private boolean analyzed;
    private long[][][] entries;
    private long[][][][] edges;
    private int[] visitCounts;
    private final List<long[]> trace = new ArrayList<>();
    private long[] values = new long[6];
    private long r;

    private static void index(boolean good) {
        if (!good) {
            throw new IndexOutOfBoundsException();
        }
    }

    private static void argument(boolean good) {
        if (!good) {
            throw new IllegalArgumentException();
        }
    }

    private static void state(boolean good) {
        if (!good) {
            throw new IllegalStateException();
        }
    }

    private boolean isBlock(int b) {
        return 0 <= b && b < blocks.size();
    }

    private static boolean isVariable(int v) {
        return 0 <= v && v < 6;
    }

    private static boolean isRange(int low, int high) {
        return LEAST <= low && low <= GREATEST && LEAST <= high && high <= GREATEST && low <= high;
    }

    int addBlock() {
        state(blocks.size() < 16);
        analyzed = false;
        blocks.add(new Body());
        return blocks.size() - 1;
    }

    boolean setInitial(int v, int low, int high) {
        index(isVariable(v));
        argument(isRange(low, high));
        analyzed = false;
        boolean other = initial[v][0] != low || initial[v][1] != high;
        initial[v] = new long[] {low, high};
        return other;
    }

    int input(int b, int x, int low, int high) {
        index(isBlock(b) && isVariable(x));
        argument(isRange(low, high));
        return append(b, new long[] {low == high ? 7 : 6, x, low, high});
    }

    int compute(int b, int kind, int x, int y, int z) {
        index(isBlock(b) && isVariable(x) && isVariable(y) && isVariable(z));
        argument(0 <= kind && kind <= 5);
        return append(b, new long[] {kind, x, y, z});
    }

    private int append(int b, long[] statement) {
        state(blocks.get(b).statements.size() < 8);
        analyzed = false;
        blocks.get(b).statements.add(statement);
        return blocks.get(b).statements.size();
    }

    int jump(int b, int a) {
        index(isBlock(b) && isBlock(a));
        analyzed = false;
        int before = blocks.get(b).targets.length;
        blocks.get(b).targets = new int[] {a};
        return before;
    }

    int branch(int block, int x, int relation, int y, int a, int b) {
        index(isBlock(block) && isVariable(x) && isVariable(y) && isBlock(a) && isBlock(b));
        argument(0 <= relation && relation <= 3);
        analyzed = false;
        Body body = blocks.get(block);
        int before = body.targets.length;
        body.targets = new int[] {a, b};
        body.x = x;
        body.relation = relation;
        body.y = y;
        return before;
    }

    int clear(int b) {
        index(isBlock(b));
        analyzed = false;
        int before = blocks.get(b).statements.size();
        blocks.set(b, new Body());
        return before;
    }

    int blockCount() {
        return blocks.size();
    }

    boolean setEffort(int newDelay, int newNarrowings) {
        argument(0 <= newDelay && newDelay <= 10 && 0 <= newNarrowings && newNarrowings <= 5);
        analyzed = false;
        boolean other = delay != newDelay || narrowings != newNarrowings;
        delay = newDelay;
        narrowings = newNarrowings;
        return other;
    }

    int addThreshold(int t) {
        argument(-999999999 <= t && t <= 999999999);
        state(thresholds.size() - 2 < 8);
        analyzed = false;
        thresholds.add((long) t);
        return thresholds.size() - 2;
    }

    int analyze() {
        entries = new long[blocks.size()][][];
        edges = new long[blocks.size()][2][][];
        visitCounts = new int[blocks.size()];
        int rounds = 0;
        boolean changed = true;
        while (changed) {
            rounds++;
            changed = false;
            for (int b = 0; b < blocks.size(); b++) {
                long[][] n = incoming(b);
                long[][] wanted = n == null ? entries[b] : widened(b, entries[b], n);
                if (!same(wanted, entries[b])) {
                    changed = true;
                    entries[b] = wanted;
                    visitCounts[b]++;
                    makeEdges(b);
                }
            }
        }
        for (int i = 0; i < narrowings; i++) {
            for (int b = 0; b < blocks.size(); b++) {
                narrow(b);
            }
        }
        analyzed = true;
        return rounds;
    }

    private void narrow(int b) {
        if (entries[b] != null) {
            long[][] n = incoming(b);
            long[][] e = entries[b];
            entries[b] = n == null ? null : new long[6][];
            for (int v = 0; n != null && v < 6; v++) {
                entries[b][v] = new long[] {Math.max(e[v][0], n[v][0]), Math.min(e[v][1], n[v][1])};
                if (entries[b][v][0] > entries[b][v][1]) {
                    throw new AssertionError("N is apart from E");
                }
            }
        }
        makeEdges(b);
    }

    private static boolean same(long[][] a, long[][] b) {
        return java.util.Arrays.deepEquals(a, b);
    }

    private static long[][] join(long[][] a, long[][] b) {
        if (a == null || b == null) {
            return a == null ? b : a;
        }
        long[][] joined = new long[6][];
        for (int v = 0; v < 6; v++) {
            joined[v] = new long[] {Math.min(a[v][0], b[v][0]), Math.max(a[v][1], b[v][1])};
        }
        return joined;
    }

    private long[][] widened(int b, long[][] e, long[][] n) {
        if (e == null) {
            return n;
        }
        long[][] joined = join(e, n);
        for (int v = 0; visitCounts[b] >= delay && v < 6; v++) {
            if (joined[v][0] < e[v][0]) {
                joined[v][0] = thresholds.floor(joined[v][0]);
            }
            if (joined[v][1] > e[v][1]) {
                joined[v][1] = thresholds.ceiling(joined[v][1]);
            }
        }
        return joined;
    }

    private long[][] incoming(int b) {
        long[][] n = b == 0 ? copy(initial) : null;
        for (int source = 0; source < blocks.size(); source++) {
            int[] targets = blocks.get(source).targets;
            for (int edge = 0; edge < targets.length; edge++) {
                n = targets[edge] == b ? join(n, edges[source][edge]) : n;
            }
        }
        return n;
    }

    private static long[][] copy(long[][] s) {
        long[][] c = new long[6][];
        for (int v = 0; v < 6; v++) {
            c[v] = s[v].clone();
        }
        return c;
    }

    private static long limited(long value) {
        return value < LEAST ? LEAST : value > GREATEST ? GREATEST : value;
    }

    private long[][] behind(int b) {
        if (entries[b] == null) {
            return null;
        }
        long[][] s = copy(entries[b]);
        for (long[] st : blocks.get(b).statements) {
            s[(int) st[1]] = st[0] >= 6 ? new long[] {st[2], st[3]} : ranged((int) st[0], s[(int) st[2]], s[(int) st[3]]);
        }
        return s;
    }

    private static long[] ranged(int kind, long[] y, long[] z) {
        switch (kind) {
            case 0:
                return y.clone();
            case 1:
                return new long[] {limited(y[0] + z[0]), limited(y[1] + z[1])};
            case 2:
                return new long[] {limited(y[0] - z[1]), limited(y[1] - z[0])};
            case 3:
                long[] p = {y[0] * z[0], y[0] * z[1], y[1] * z[0], y[1] * z[1]};
                java.util.Arrays.sort(p);
                return new long[] {limited(p[0]), limited(p[3])};
            case 4:
                return new long[] {Math.min(y[0], z[0]), Math.min(y[1], z[1])};
            default:
                return new long[] {Math.max(y[0], z[0]), Math.max(y[1], z[1])};
        }
    }

    private void makeEdges(int b) {
        Body body = blocks.get(b);
        long[][] s = behind(b);
        if (s == null || body.targets.length < 2) {
            edges[b][0] = s;
            edges[b][1] = s;
            return;
        }
        edges[b][0] = refined(s, body, true);
        edges[b][1] = refined(s, body, false);
    }

    private static boolean holds(int relation, long x, long y) {
        return relation == 0 ? x < y : relation == 1 ? x <= y : relation == 2 ? x == y : x != y;
    }

    private static long[][] refined(long[][] s, Body body, boolean truth) {
        if (body.x == body.y) {
            return holds(body.relation, 1, 1) == truth ? s : null;
        }
        long[][] kept = copy(s);
        kept[body.x] = kept(s[body.x], s[body.y], body.relation, truth, true);
        kept[body.y] = kept(s[body.y], s[body.x], body.relation, truth, false);
        return kept[body.x] == null || kept[body.y] == null ? null : kept;
    }

    /** The hull of the integers of mine with a partner in other: each end lies at or beside an end of one of them. */
    private static long[] kept(long[] mine, long[] other, int relation, boolean truth, boolean mineIsX) {
        TreeSet<Long> found = new TreeSet<>();
        for (long m : near(mine, other)) {
            for (long o : near(mine, other)) {
                boolean inside = mine[0] <= m && m <= mine[1] && other[0] <= o && o <= other[1];
                if (inside && (mineIsX ? holds(relation, m, o) : holds(relation, o, m)) == truth) {
                    found.add(m);
                }
            }
        }
        return found.isEmpty() ? null : new long[] {found.first(), found.last()};
    }

    private static TreeSet<Long> near(long[] a, long[] b) {
        TreeSet<Long> all = new TreeSet<>();
        for (long end : new long[] {a[0], a[1], b[0], b[1]}) {
            all.addAll(List.of(end - 2, end - 1, end, end + 1, end + 2));
        }
        return all;
    }

    boolean isAnalyzed() {
        return analyzed;
    }

    boolean isReachable(int b) {
        state(analyzed);
        index(isBlock(b));
        return entries[b] != null;
    }

    int entry(int b, int v, boolean isHigh) {
        state(analyzed);
        index(isBlock(b) && isVariable(v));
        return end(entries[b], v, isHigh);
    }

    int exit(int b, int v, boolean isHigh) {
        state(analyzed);
        index(isBlock(b) && isVariable(v));
        return end(behind(b), v, isHigh);
    }

    private static int end(long[][] s, int v, boolean isHigh) {
        if (s == null) {
            throw new NoSuchElementException();
        }
        return (int) s[v][isHigh ? 1 : 0];
    }

    boolean isDead(int b, int edge) {
        state(analyzed);
        index(isBlock(b) && 0 <= edge && edge < blocks.get(b).targets.length);
        return edges[b][edge] == null;
    }

    int deadEdges() {
        state(analyzed);
        int dead = 0;
        for (int b = 0; b < blocks.size(); b++) {
            for (int edge = 0; edge < blocks.get(b).targets.length; edge++) {
                dead += entries[b] != null && edges[b][edge] == null ? 1 : 0;
            }
        }
        return dead;
    }

    int constants(int b) {
        state(analyzed);
        index(isBlock(b));
        int count = 0;
        long[][] s = behind(b);
        for (int v = 0; s != null && v < 6; v++) {
            count += s[v][0] == s[v][1] ? 1 : 0;
        }
        return count;
    }

    int visits(int b) {
        state(analyzed);
        index(isBlock(b));
        return visitCounts[b];
    }

    private long choose(long low, long high) {
        long size = high - low + 1;
        long rest = java.math.BigInteger.valueOf(r).mod(java.math.BigInteger.valueOf(size)).longValue();
        r = r * 6364136223846793005L + 1442695040888963407L;
        return low + rest;
    }

    int run(long seed, int steps) {
        argument(1 <= steps && steps <= 300);
        r = seed;
        trace.clear();
        values = new long[6];
        for (int v = 0; v < 6; v++) {
            values[v] = choose(initial[v][0], initial[v][1]);
        }
        int at = 0;
        while (at >= 0 && trace.size() < steps) {
            long[] row = java.util.Arrays.copyOf(values, 7);
            row[6] = at;
            trace.add(row);
            at = execute(blocks.get(at));
        }
        return trace.size();
    }

    /** The block that is entered next, or -1. */
    private int execute(Body body) {
        for (long[] st : body.statements) {
            long value = st[2];
            if (st[0] == 6) {
                value = choose(st[2], st[3]);
            } else if (st[0] < 6) {
                long y = values[(int) st[2]];
                long z = values[(int) st[3]];
                value = ranged((int) st[0], new long[] {y, y}, new long[] {z, z})[0];
            }
            values[(int) st[1]] = value;
        }
        if (body.targets.length == 0) {
            return -1;
        }
        boolean first = body.targets.length == 1 || holds(body.relation, values[body.x], values[body.y]);
        return body.targets[first ? 0 : 1];
    }

    int enteredBlock(int step) {
        index(0 <= step && step < trace.size());
        return (int) trace.get(step)[6];
    }

    int enteredWith(int step, int v) {
        index(0 <= step && step < trace.size() && isVariable(v));
        return (int) trace.get(step)[v];
    }

    int result(int v) {
        index(isVariable(v));
        return (int) values[v];
    }

    long digest() {
        List<Long> numbers = new ArrayList<>();
        numbers.add((long) blocks.size());
        for (Body body : blocks) {
            numbers.add((long) body.statements.size());
            numbers.add((long) body.targets.length);
        }
        numbers.addAll(List.of((long) delay, (long) narrowings, (long) thresholds.size() - 2));
        for (int b = 0; analyzed && b < blocks.size(); b++) {
            numbers.add((long) visitCounts[b]);
            for (int v = 0; entries[b] != null && v < 6; v++) {
                numbers.add(entries[b][v][0]);
                numbers.add(entries[b][v][1]);
            }
        }
        for (long value : values) {
            numbers.add(value);
        }
        long d = 89;
        for (long x : numbers) {
            d = d * 31 + x;
        }
        return d;
    }
}
