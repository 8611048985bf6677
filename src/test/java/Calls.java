/** What several tests do with an object, by its public calls alone. */
final class Calls {
    static final int NONE = GrownSnapshots.NONE;
    static final int BAD = GrownSnapshots.BAD;
    static final int FULL = GrownSnapshots.FULL;
    static final int LEAST = Integer.MIN_VALUE;
    static final int MOST = Integer.MAX_VALUE;

    private Calls() {
    }

    static int size(GrownSnapshots x, int task) {
        return x.insert(task, 0, 0, 0L);
    }

    /** A chunk of four bytes, first 0 0 0, behind a state: other firsts make other parts. */
    static void addShort(GrownSnapshots x, int task, int first) {
        x.insert(task, size(x, task), 4, (long) first << 24);
    }

    /** A chunk of 32 equal bytes behind a state; value is no multiple of 11, so none is cut. */
    static void addLong(GrownSnapshots x, int task, int value) {
        x.extend(task, 32, value, 0);
    }

    static void empty(GrownSnapshots x, int task) {
        x.remove(task, 0, size(x, task));
    }

    /** The state is such chunks of four bytes, and nothing else. */
    static void setShorts(GrownSnapshots x, int task, int... firsts) {
        empty(x, task);
        for (int first : firsts) {
            addShort(x, task, first);
        }
    }

    static GrownSnapshots withShorts(int... firsts) {
        GrownSnapshots x = new GrownSnapshots();
        setShorts(x, 0, firsts);
        return x;
    }

    /** Four tasks with chunks of 32 bytes, so many, all different; each 36 of them are marked. */
    static GrownSnapshots withLongs(int count) {
        GrownSnapshots x = new GrownSnapshots();
        x.rescale(4);
        for (int i = 0; i < count; i++) {
            if (i > 0 && i % 36 == 0) {
                x.mark(1);
                for (int task = 0; task < 4; task++) {
                    empty(x, task);
                }
            }
            addLong(x, i % 36 / 9, i + i / 10 + 1);
        }
        return x;
    }

    static String bytes(GrownSnapshots x, int task) {
        StringBuilder told = new StringBuilder();
        int size = size(x, task);
        for (int i = 0; i < size; i++) {
            told.append(i == 0 ? "" : " ").append(x.state(task, i));
        }
        return told.toString();
    }

    static String list(GrownSnapshots x, int mark, int task) {
        StringBuilder told = new StringBuilder();
        int most = 75;
        for (int i = 0; i < most && x.list(mark, task, i) >= 0; i++) {
            told.append(i == 0 ? "" : " ").append(x.list(mark, task, i));
        }
        return told.toString();
    }
}
