import java.util.Random;

/**
 * Long mixed runs of calls, each answer against the plain model's; every seed is fixed. Some runs
 * end with calls whose arguments are all taken from the edges that the document names.
 */
public final class ModelTest {
    private static final int RUNS = 1500;
    private static final int EDGE_RUNS = 500;
    private static final int CALLS = 512;
    private static final int[] EDGES = {
        Integer.MIN_VALUE, -2, -1, 0, 0, 1, 1, 2, 3, 4, 5, 8, 9, 11, 12, 31, 32, 75, 119, 120,
        255, 256, 300, 301, Integer.MAX_VALUE,
    };
    private static final Due due = new Due();
    private static final int[] seen = new int[4];

    private final Random random;
    private final GrownSnapshots x = new GrownSnapshots();
    private final PlainModel m = new PlainModel();
    private final int run;
    // How often what is there is altered and lost: some runs are all sound, some hardly readable.
    private final int harm;

    private ModelTest(int run) {
        this.run = run;
        random = new Random(run);
        harm = run % 4;
    }

    public static void main(String[] args) {
        for (int run = 0; run < RUNS; run++) {
            new ModelTest(run).calls(CALLS);
        }
        for (int run = RUNS; run < RUNS + EDGE_RUNS; run++) {
            ModelTest test = new ModelTest(run);
            test.calls(CALLS / 2);
            test.edgeCalls(CALLS / 2);
        }
        // The runs are worth nothing if they never get this far.
        due.is("a mark was refused as FULL", seen[0] > 100, true);
        due.is("going back met an earlier mark", seen[1] > 100, true);
        due.is("going back met none", seen[2] > 100, true);
        due.is("a base was held, but not kept", seen[3] > 100, true);
        due.end();
    }

    private void calls(int n) {
        for (int i = 0; i < n; i++) {
            int kind = random.nextInt(100);
            if (kind < 34) {
                changeState();
            } else if (kind < 58) {
                changeMarks();
            } else if (kind < 58 + 4 * harm) {
                harm();
            } else if (kind < 85) {
                askAboutMarks();
            } else {
                askAboutParts();
            }
        }
    }

    private int edge() {
        return EDGES[random.nextInt(EDGES.length)];
    }

    private void edgeCalls(int n) {
        for (int i = 0; i < n; i++) {
            int kind = random.nextInt(18);
            if (kind < 6) {
                edgeOfStates(kind, edge(), edge(), edge(), edge());
            } else if (kind < 13) {
                edgeOfMarks(kind, edge(), edge(), edge());
            } else {
                edgeOfParts(kind, edge(), edge(), edge(), edge());
            }
        }
    }

    private void edgeOfStates(int kind, int a, int b, int c, int d) {
        switch (kind) {
            case 0:
                check("edge insert", x.insert(a, b, c, d), m.insert(a, b, c, d));
                break;
            case 1:
                check("edge remove", x.remove(a, b, c), m.remove(a, b, c));
                break;
            case 2:
                check("edge extend", x.extend(a, b, c, d), m.extend(a, b, c, d));
                break;
            case 3:
                check("edge state", x.state(a, b), m.state(a, b));
                break;
            case 4:
                check("edge chunk", x.chunk(a, b), m.chunk(a, b));
                break;
            default:
                check("edge rescale", x.rescale(a), m.rescale(a));
        }
    }

    private void edgeOfMarks(int kind, int a, int b, int c) {
        switch (kind) {
            case 6:
                check("edge mark", x.mark(a), m.mark(a));
                break;
            case 7:
                check("edge drop", x.drop(a), m.drop(a));
                break;
            case 8:
                check("edge back", x.back(a), m.back(a));
                break;
            case 9:
                check("edge usable", x.usable(a), m.usable(a));
                break;
            case 10:
                check("edge markTold", x.markTold(a, b), m.markTold(a, b));
                break;
            case 11:
                check("edge list", x.list(a, b, c), m.list(a, b, c));
                break;
            default:
                due.is("run " + run + " edge same", x.same(a, b), m.same(a, b));
        }
    }

    private void edgeOfParts(int kind, int a, int b, int c, int d) {
        switch (kind) {
            case 13:
                check("edge partTold", x.partTold(a, b), m.partTold(a, b));
                break;
            case 14:
                check("edge partByte", x.partByte(a, b, c), m.partByte(a, b, c));
                break;
            case 15:
                check("edge alter", x.alter(a, b, c, d), m.alter(a, b, c, d));
                break;
            case 16:
                check("edge lose", x.lose(a, b), m.lose(a, b));
                break;
            default:
                check("edge told", x.told(a), m.told(a));
        }
    }

    private void check(String call, int got, int want) {
        due.is("run " + run + " " + call, got, want);
    }

    /** Mostly from 0 up to below n, now and then an edge or far off. */
    private int near(int n) {
        if (random.nextInt(25) == 0) {
            int[] edges = {-1, -2, n, n + 1, Integer.MIN_VALUE, Integer.MAX_VALUE};
            return edges[random.nextInt(edges.length)];
        }
        return n <= 0 ? 0 : random.nextInt(n);
    }

    private int task() {
        return near(m.told(0));
    }

    private int taskOrStore() {
        return random.nextInt(2) == 0 ? -1 : task();
    }

    private int mark() {
        int made = m.told(5);
        return random.nextInt(3) == 0 ? near(made) : made - 1 - near(Math.min(made, 14));
    }

    private int part() {
        return random.nextInt(12) == 0 ? near(120) : near(m.told(3));
    }

    private void changeState() {
        int task = task();
        int size = Math.max(0, m.insert(task, 0, 0, 0L));
        switch (random.nextInt(8)) {
            case 0: {
                int[] steps = {0, 0, 1, 11, 22, random.nextInt()};
                int step = steps[random.nextInt(steps.length)];
                int n = near(random.nextInt(3) == 0 ? 300 : 80);
                int v = random.nextInt(2) == 0 ? random.nextInt(4) : random.nextInt();
                check("extend", x.extend(task, n, v, step), m.extend(task, n, v, step));
                break;
            }
            case 1:
            case 2: {
                int at = near(size + 1);
                int n = near(9);
                long v = random.nextInt(2) == 0 ? random.nextLong() : 61L * random.nextInt(3);
                check("insert", x.insert(task, at, n, v), m.insert(task, at, n, v));
                break;
            }
            case 3:
            case 4: {
                int at = near(size + 1);
                int n = near(random.nextInt(4) == 0 ? size - at + 1 : 12);
                check("remove", x.remove(task, at, n), m.remove(task, at, n));
                break;
            }
            case 5: {
                int i = near(size);
                check("state", x.state(task, i), m.state(task, i));
                break;
            }
            case 6: {
                int i = random.nextInt(3) == 0 ? -1 : near(m.chunk(task, -1));
                check("chunk", x.chunk(task, i), m.chunk(task, i));
                break;
            }
            default: {
                int tasks = random.nextInt(2) == 0 ? m.told(0) : 1 + near(4);
                check("rescale", x.rescale(tasks), m.rescale(tasks));
            }
        }
    }

    private void changeMarks() {
        int kind = random.nextInt(10);
        if (kind < 5) {
            int whole = random.nextInt(4) == 0 ? 1 : near(1);
            int want = m.mark(whole);
            check("mark", x.mark(whole), want);
            seen[0] += want == -3 ? 1 : 0;
        } else if (kind < 8) {
            int mark = mark();
            check("drop", x.drop(mark), m.drop(mark));
            seen[3] += m.told(2) > m.told(1) ? 1 : 0;
        } else {
            int mark = mark();
            int want = m.back(mark);
            check("back", x.back(mark), want);
            seen[1] += want >= 0 && want < mark ? 1 : 0;
            seen[2] += want == -1 ? 1 : 0;
        }
    }

    private void harm() {
        int part = part();
        int task = taskOrStore();
        if (random.nextInt(3) == 0) {
            check("lose", x.lose(part, task), m.lose(part, task));
            return;
        }
        int i = near(Math.max(1, m.partTold(part, 0)));
        int bits = random.nextInt(3) == 0 ? near(256) : bitsThatKeepDigest(part, task, i);
        check("alter", x.alter(part, task, i, bits), m.alter(part, task, i, bits));
    }

    /** Bytes that are the same modulo 61 make digests that meet. */
    private int bitsThatKeepDigest(int part, int task, int i) {
        int now = Math.max(0, m.partByte(part, task, i));
        return now ^ (now + 61 < 256 ? now + 61 : now - 61);
    }

    private void askAboutMarks() {
        int mark = mark();
        switch (random.nextInt(5)) {
            case 0:
                check("usable", x.usable(mark), m.usable(mark));
                break;
            case 1: {
                int what = near(7);
                check("markTold " + what, x.markTold(mark, what), m.markTold(mark, what));
                break;
            }
            case 2: {
                int task = near(4);
                int i = near(random.nextInt(2) == 0 ? 3 : 40);
                check("list", x.list(mark, task, i), m.list(mark, task, i));
                break;
            }
            case 3: {
                int other = mark();
                due.is("run " + run + " same", x.same(mark, other), m.same(mark, other));
                break;
            }
            default: {
                int what = near(9);
                check("told " + what, x.told(what), m.told(what));
            }
        }
    }

    private void askAboutParts() {
        int part = part();
        if (random.nextInt(2) == 0) {
            int what = near(5);
            check("partTold " + what, x.partTold(part, what), m.partTold(part, what));
            return;
        }
        int task = taskOrStore();
        int i = near(Math.max(1, m.partTold(part, 0)));
        check("partByte", x.partByte(part, task, i), m.partByte(part, task, i));
    }
}
