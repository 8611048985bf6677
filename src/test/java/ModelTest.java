import java.util.Random;

/** Long mixed runs of calls, each answer against the plain model's; every seed is fixed. */
public final class ModelTest {
    private static final int RUNS = 1500;
    private static final int CALLS = 512;
    private static final Due due = new Due();
    private static final int[] seen = new int[4];

    private final Random random;
    private final GrownSnapshots x = new GrownSnapshots();
    private final PlainModel m = new PlainModel();
    private final int run;
    // How often what is there is altered and lost: some runs are all sound, some hardly readable.
    private final int harm;

    private ModelTest(int run) {
        this.run = run;
        random = new Random(run);
        harm = run % 4;
    }

    public static void main(String[] args) {
        for (int run = 0; run < RUNS; run++) {
            new ModelTest(run).calls();
        }
        // The runs are worth nothing if they never get this far.
        due.is("a mark was refused as FULL", seen[0] > 100, true);
        due.is("going back met an earlier mark", seen[1] > 100, true);
        due.is("going back met none", seen[2] > 100, true);
        due.is("a base was held, but not kept", seen[3] > 100, true);
        due.end();
    }

    private void calls() {
        for (int i = 0; i < CALLS; i++) {
            int kind = random.nextInt(100);
            if (kind < 34) {
                changeState();
            } else if (kind < 58) {
                changeMarks();
            } else if (kind < 58 + 4 * harm) {
                harm();
            } else if (kind < 85) {
                askAboutMarks();
            } else {
                askAboutParts();
            }
        }
    }

    private void check(String call, int got, int want) {
        due.is("run " + run + " " + call, got, want);
    }

    /** Mostly from 0 up to below n, now and then an edge or far off. */
    private int near(int n) {
        if (random.nextInt(25) == 0) {
            int[] edges = {-1, -2, n, n + 1, Integer.MIN_VALUE, Integer.MAX_VALUE};
            return edges[random.nextInt(edges.length)];
        }
        return n <= 0 ? 0 : random.nextInt(n);
    }

    private int task() {
        return near(m.told(0));
    }

    private int taskOrStore() {
        return random.nextInt(2) == 0 ? -1 : task();
    }

    private int mark() {
        int made = m.told(5);
        return random.nextInt(3) == 0 ? near(made) : made - 1 - near(Math.min(made, 14));
    }

    private int part() {
        return random.nextInt(12) == 0 ? near(120) : near(m.told(3));
    }

    private void changeState() {
        int task = task();
        int size = Math.max(0, m.insert(task, 0, 0, 0L));
        switch (random.nextInt(8)) {
            case 0: {
                int[] steps = {0, 0, 1, 11, 22, random.nextInt()};
                int step = steps[random.nextInt(steps.length)];
                int n = near(random.nextInt(3) == 0 ? 300 : 80);
                int v = random.nextInt(2) == 0 ? random.nextInt(4) : random.nextInt();
                check("extend", x.extend(task, n, v, step), m.extend(task, n, v, step));
                break;
            }
            case 1:
            case 2: {
                int at = near(size + 1);
                int n = near(9);
                long v = random.nextInt(2) == 0 ? random.nextLong() : 61L * random.nextInt(3);
                check("insert", x.insert(task, at, n, v), m.insert(task, at, n, v));
                break;
            }
            case 3:
            case 4: {
                int at = near(size + 1);
                int n = near(random.nextInt(4) == 0 ? size - at + 1 : 12);
                check("remove", x.remove(task, at, n), m.remove(task, at, n));
                break;
            }
            case 5: {
                int i = near(size);
                check("state", x.state(task, i), m.state(task, i));
                break;
            }
            case 6: {
                int i = random.nextInt(3) == 0 ? -1 : near(m.chunk(task, -1));
                check("chunk", x.chunk(task, i), m.chunk(task, i));
                break;
            }
            default: {
                int tasks = random.nextInt(2) == 0 ? m.told(0) : 1 + near(4);
                check("rescale", x.rescale(tasks), m.rescale(tasks));
            }
        }
    }

    private void changeMarks() {
        int kind = random.nextInt(10);
        if (kind < 5) {
            int whole = random.nextInt(4) == 0 ? 1 : near(1);
            int want = m.mark(whole);
            check("mark", x.mark(whole), want);
            seen[0] += want == -3 ? 1 : 0;
        } else if (kind < 8) {
            int mark = mark();
            check("drop", x.drop(mark), m.drop(mark));
            seen[3] += m.told(2) > m.told(1) ? 1 : 0;
        } else {
            int mark = mark();
            int want = m.back(mark);
            check("back", x.back(mark), want);
            seen[1] += want >= 0 && want < mark ? 1 : 0;
            seen[2] += want == -1 ? 1 : 0;
        }
    }

    private void harm() {
        int part = part();
        int task = taskOrStore();
        if (random.nextInt(3) == 0) {
            check("lose", x.lose(part, task), m.lose(part, task));
            return;
        }
        int i = near(Math.max(1, m.partTold(part, 0)));
        int bits = random.nextInt(3) == 0 ? near(256) : bitsThatKeepDigest(part, task, i);
        check("alter", x.alter(part, task, i, bits), m.alter(part, task, i, bits));
    }

    /** Bytes that are the same modulo 61 make digests that meet. */
    private int bitsThatKeepDigest(int part, int task, int i) {
        int now = Math.max(0, m.partByte(part, task, i));
        return now ^ (now + 61 < 256 ? now + 61 : now - 61);
    }

    private void askAboutMarks() {
        int mark = mark();
        switch (random.nextInt(5)) {
            case 0:
                check("usable", x.usable(mark), m.usable(mark));
                break;
            case 1: {
                int what = near(7);
                check("markTold " + what, x.markTold(mark, what), m.markTold(mark, what));
                break;
            }
            case 2: {
                int task = near(4);
                int i = near(random.nextInt(2) == 0 ? 3 : 40);
                check("list", x.list(mark, task, i), m.list(mark, task, i));
                break;
            }
            case 3: {
                int other = mark();
                due.is("run " + run + " same", x.same(mark, other), m.same(mark, other));
                break;
            }
            default: {
                int what = near(9);
                check("told " + what, x.told(what), m.told(what));
            }
        }
    }

    private void askAboutParts() {
        int part = part();
        if (random.nextInt(2) == 0) {
            int what = near(5);
            check("partTold " + what, x.partTold(part, what), m.partTold(part, what));
            return;
        }
        int task = taskOrStore();
        int i = near(Math.max(1, m.partTold(part, 0)));
        check("partByte", x.partByte(part, task, i), m.partByte(part, task, i));
    }
}
