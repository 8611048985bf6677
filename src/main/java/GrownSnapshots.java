/**
 * Snapshots of some tasks' states that keep only what is new.
 *
 * <p>All rows are made in the constructors and used again, so that no call makes an object.
 */
public final class GrownSnapshots {
    public static final int NONE = -1, BAD = -2, FULL = -3;

    private static final int MOST_TASKS = 4;
    private static final int FIRST_TASKS = 2;
    private static final int MOST_STATE = 300;
    private static final int MOST_INSERTED = 8;
    private static final int BYTE_MASK = 255;
    private static final int LEAST_CHUNK = 4;
    private static final int MOST_CHUNK = 32;
    // Only the last chunk of a state may be shorter than the least.
    private static final int MOST_CHUNKS = MOST_STATE / LEAST_CHUNK;
    private static final int MOST_PARTS = 120;
    private static final int MOST_PART_BYTES = 2400;
    private static final int MOST_HELD = 12;

    private final State[] states = new State[MOST_TASKS];
    // Those of tasks that are not there are empty, so a task that comes has no copies.
    private final Shelf[] copies = new Shelf[MOST_TASKS];
    private final Store store = new Store();
    // The first heldCount are held, by rising number; the others wait to be used again.
    private final Mark[] held = new Mark[MOST_HELD];
    private final int[] joined = new int[MOST_TASKS * MOST_STATE];
    private final boolean[] named = new boolean[MOST_PARTS];
    private int taskCount = FIRST_TASKS;
    private int heldCount = 0;
    private int nextMark = 0;

    public GrownSnapshots() {
        for (int task = 0; task < MOST_TASKS; task++) {
            states[task] = new State();
            copies[task] = new Shelf();
        }
        for (int i = 0; i < MOST_HELD; i++) {
            held[i] = new Mark();
        }
    }

    // ---- states

    public int insert(int task, int at, int n, long v) {
        if (!isTask(task) || n < 0 || n > MOST_INSERTED) {
            return BAD;
        }
        State state = states[task];
        if (at < 0 || at > state.size) {
            return BAD;
        }
        if (state.size + n > MOST_STATE) {
            return FULL;
        }
        state.open(at, n);
        for (int i = 0; i < n; i++) {
            state.bytes[at + i] = (int) (v >>> (8 * (n - 1 - i))) & BYTE_MASK;
        }
        return state.size;
    }

    public int remove(int task, int at, int n) {
        if (!isTask(task) || at < 0 || n < 0) {
            return BAD;
        }
        State state = states[task];
        if (at > state.size || n > state.size - at) {
            return BAD;
        }
        state.close(at, n);
        return state.size;
    }

    public int extend(int task, int n, int v, int step) {
        if (!isTask(task) || n < 0 || n > MOST_STATE) {
            return BAD;
        }
        State state = states[task];
        if (state.size + n > MOST_STATE) {
            return FULL;
        }
        int end = state.size;
        state.open(end, n);
        for (int i = 0; i < n; i++) {
            state.bytes[end + i] = (v + i * step) & BYTE_MASK;
        }
        return state.size;
    }

    public int state(int task, int i) {
        if (!isTask(task) || i < 0 || i >= states[task].size) {
            return BAD;
        }
        return states[task].bytes[i];
    }

    public int chunk(int task, int i) {
        if (!isTask(task) || i < NONE) {
            return BAD;
        }
        State state = states[task];
        int count = state.cut();
        if (i == NONE) {
            return count;
        }
        return i < count ? state.chunkSize(i) : BAD;
    }

    public int rescale(int tasks) {
        if (tasks < 1 || tasks > MOST_TASKS) {
            return BAD;
        }
        int total = totalStateBytes();
        for (int task = 0; task < tasks; task++) {
            if (shareStart(total, task + 1, tasks) - shareStart(total, task, tasks) > MOST_STATE) {
                return FULL;
            }
        }
        int before = taskCount;
        joinStates();
        becomeTasks(tasks);
        for (int task = 0; task < tasks; task++) {
            int start = shareStart(total, task, tasks);
            states[task].size = 0;
            states[task].append(joined, start, shareStart(total, task + 1, tasks) - start);
        }
        return before;
    }

    // ---- marks

    public int mark(int whole) {
        if (whole != 0 && whole != 1) {
            return BAD;
        }
        if (heldCount >= MOST_HELD) {
            return FULL;
        }
        Mark made = held[heldCount];
        made.begin(nextMark, taskCount);
        if (!storeStates(made)) {
            return FULL;
        }
        made.newBytes = store.freshBytes;
        made.growUpon(whole == 1 ? null : latestKept());
        copyStates(made);
        heldCount++;
        nextMark++;
        return made.number;
    }

    public int drop(int mark) {
        Mark dropped = keptMark(mark);
        if (dropped == null) {
            return BAD;
        }
        dropped.kept = false;
        letGoUnheld();
        return freeUnnamed();
    }

    public int back(int mark) {
        if (mark < 0 || mark >= nextMark) {
            return BAD;
        }
        Mark found = latestUsable(mark);
        if (found == null) {
            return NONE;
        }
        becomeTasks(found.tasks);
        for (int task = 0; task < found.tasks; task++) {
            readState(found, task);
        }
        return found.number;
    }

    public int usable(int mark) {
        Mark asked = keptMark(mark);
        if (asked == null) {
            return BAD;
        }
        return isUsable(asked) ? 1 : 0;
    }

    public int markTold(int mark, int what) {
        Mark asked = heldMark(mark);
        if (asked == null) {
            return BAD;
        }
        switch (what) {
            case 0:
                return asked.kept ? 1 : 0;
            case 1:
                return asked.base;
            case 2:
                return asked.tasks;
            case 3:
                return asked.partCount();
            case 4:
                return asked.ownParts;
            case 5:
                return asked.listBytes;
            case 6:
                return asked.newBytes;
            default:
                return BAD;
        }
    }

    public int list(int mark, int task, int i) {
        Mark asked = keptMark(mark);
        if (asked == null || task < 0 || task >= asked.tasks || i < 0) {
            return BAD;
        }
        return i < asked.sizes[task] ? asked.lists[task][i] : NONE;
    }

    public boolean same(int a, int b) {
        Mark one = keptMark(a);
        Mark other = keptMark(b);
        return one != null && other != null && one.isAlike(other);
    }

    // ---- parts

    public int partTold(int part, int what) {
        if (!store.isThere(part)) {
            return BAD;
        }
        switch (what) {
            case 0:
                return store.sizes[part];
            case 1:
                return store.digests[part];
            case 2:
                return keptNaming(part);
            case 3:
                return store.isSound(part, store.shelf) ? 0 : 1;
            case 4:
                return copyCount(part);
            default:
                return BAD;
        }
    }

    public int partByte(int part, int task, int i) {
        Shelf shelf = shelfOf(task);
        if (shelf == null || !store.hasByte(part, shelf, i)) {
            return BAD;
        }
        return shelf.bytes[part * MOST_CHUNK + i];
    }

    public int alter(int part, int task, int i, int bits) {
        Shelf shelf = shelfOf(task);
        if (shelf == null || !store.hasByte(part, shelf, i) || bits < 0 || bits > BYTE_MASK) {
            return BAD;
        }
        shelf.bytes[part * MOST_CHUNK + i] ^= bits;
        return shelf.bytes[part * MOST_CHUNK + i];
    }

    public int lose(int part, int task) {
        Shelf shelf = shelfOf(task);
        if (shelf == null || !store.isThere(part) || !shelf.has[part]) {
            return BAD;
        }
        shelf.has[part] = false;
        return 1;
    }

    public int told(int what) {
        switch (what) {
            case 0:
                return taskCount;
            case 1:
                return keptCount();
            case 2:
                return heldCount;
            case 3:
                return store.count;
            case 4:
                return store.totalBytes;
            case 5:
                return nextMark;
            case 6:
                return store.brokenCount();
            case 7:
                return allCopies();
            case 8:
                return totalStateBytes();
            default:
                return BAD;
        }
    }

    // ---- tasks

    private boolean isTask(int task) {
        return task >= 0 && task < taskCount;
    }

    private int totalStateBytes() {
        int total = 0;
        for (int task = 0; task < taskCount; task++) {
            total += states[task].size;
        }
        return total;
    }

    private void joinStates() {
        int end = 0;
        for (int task = 0; task < taskCount; task++) {
            System.arraycopy(states[task].bytes, 0, joined, end, states[task].size);
            end += states[task].size;
        }
    }

    /** The states of the tasks that there are then are still to be set. */
    private void becomeTasks(int tasks) {
        for (int task = tasks; task < taskCount; task++) {
            copies[task].clear();
        }
        taskCount = tasks;
    }

    /** Where the share of a task begins, when so many tasks (1 and more) share all bytes. */
    private static int shareStart(int total, int task, int tasks) {
        return total * task / tasks;
    }

    // ---- marking and dropping

    /** Finds or makes the parts of all states; where they don't fit, the store stays as it was. */
    private boolean storeStates(Mark made) {
        store.beginMarking();
        for (int task = 0; task < taskCount; task++) {
            if (!storeState(made, task)) {
                store.undoMarking();
                return false;
            }
        }
        return true;
    }

    private boolean storeState(Mark made, int task) {
        State state = states[task];
        int count = state.cut();
        for (int i = 0; i < count; i++) {
            int part = store.partOf(state.bytes, state.chunkStart(i), state.chunkSize(i));
            if (part == NONE) {
                return false;
            }
            made.lists[task][i] = part;
        }
        made.sizes[task] = count;
        made.listBytes += state.size;
        return true;
    }

    private void copyStates(Mark made) {
        for (int task = 0; task < made.tasks; task++) {
            int start = 0;
            for (int i = 0; i < made.sizes[task]; i++) {
                int part = made.lists[task][i];
                copies[task].put(part, states[task].bytes, start, store.sizes[part]);
                start += store.sizes[part];
            }
        }
    }

    /** Goes from the latest down: a base has a lower number than what has grown upon it. */
    private void letGoUnheld() {
        for (int i = heldCount - 1; i >= 0; i--) {
            if (!held[i].kept && !isBase(held[i].number)) {
                letGo(i);
            }
        }
    }

    private boolean isBase(int number) {
        for (int i = 0; i < heldCount; i++) {
            if (held[i].base == number) {
                return true;
            }
        }
        return false;
    }

    private void letGo(int at) {
        Mark gone = held[at];
        for (int i = at; i + 1 < heldCount; i++) {
            held[i] = held[i + 1];
        }
        heldCount--;
        held[heldCount] = gone;
    }

    private int freeUnnamed() {
        nameKeptParts();
        int freed = 0;
        for (int part = 0; part < MOST_PARTS; part++) {
            if (store.isThere(part) && !named[part]) {
                freePart(part);
                freed++;
            }
        }
        return freed;
    }

    private void nameKeptParts() {
        for (int part = 0; part < MOST_PARTS; part++) {
            named[part] = false;
        }
        for (int i = 0; i < heldCount; i++) {
            if (held[i].kept) {
                held[i].addNames(named);
            }
        }
    }

    private void freePart(int part) {
        store.takeAway(part);
        for (int task = 0; task < MOST_TASKS; task++) {
            copies[task].has[part] = false;
        }
    }

    // ---- finding marks

    private Mark heldMark(int number) {
        for (int i = 0; i < heldCount; i++) {
            if (held[i].number == number) {
                return held[i];
            }
        }
        return null;
    }

    private Mark keptMark(int number) {
        Mark found = heldMark(number);
        return found != null && found.kept ? found : null;
    }

    private Mark latestKept() {
        for (int i = heldCount - 1; i >= 0; i--) {
            if (held[i].kept) {
                return held[i];
            }
        }
        return null;
    }

    private Mark latestUsable(int upTo) {
        for (int i = heldCount - 1; i >= 0; i--) {
            if (held[i].number <= upTo && isUsable(held[i])) {
                return held[i];
            }
        }
        return null;
    }

    private int keptCount() {
        int count = 0;
        for (int i = 0; i < heldCount; i++) {
            if (held[i].kept) {
                count++;
            }
        }
        return count;
    }

    private int keptNaming(int part) {
        int count = 0;
        for (int i = 0; i < heldCount; i++) {
            if (held[i].kept && held[i].names(part)) {
                count++;
            }
        }
        return count;
    }

    // ---- reading

    private boolean isUsable(Mark asked) {
        if (!asked.kept) {
            return false;
        }
        for (int task = 0; task < asked.tasks; task++) {
            for (int i = 0; i < asked.sizes[task]; i++) {
                if (!isReadable(asked.lists[task][i], task)) {
                    return false;
                }
            }
        }
        return true;
    }

    private boolean isReadable(int part, int task) {
        return store.isSound(part, copies[task]) || store.isSound(part, store.shelf);
    }

    private void readState(Mark found, int task) {
        State state = states[task];
        state.size = 0;
        for (int i = 0; i < found.sizes[task]; i++) {
            int part = found.lists[task][i];
            readPart(part, task);
            state.append(copies[task].bytes, part * MOST_CHUNK, store.sizes[part]);
        }
    }

    /** The task's copy has the bytes that were read, of a part that is readable for it. */
    private void readPart(int part, int task) {
        if (!store.isSound(part, copies[task])) {
            copies[task].put(part, store.shelf.bytes, part * MOST_CHUNK, store.sizes[part]);
        }
    }

    // ---- copies

    /** The store's shelf for NONE, a task's copies, or null: there is no such task. */
    private Shelf shelfOf(int task) {
        if (task == NONE) {
            return store.shelf;
        }
        return isTask(task) ? copies[task] : null;
    }

    private int copyCount(int part) {
        int count = 0;
        for (int task = 0; task < taskCount; task++) {
            if (copies[task].has[part]) {
                count++;
            }
        }
        return count;
    }

    private int allCopies() {
        int count = 0;
        for (int part = 0; part < MOST_PARTS; part++) {
            count += copyCount(part);
        }
        return count;
    }

    private static int digestOf(int[] row, int start, int size) {
        int digest = 1;
        for (int i = 0; i < size; i++) {
            digest = (31 * digest + row[start + i]) % 61;
        }
        return digest;
    }

    /** The bytes of a task, and where its chunks end when it is cut. */
    private static final class State {
        final int[] bytes = new int[MOST_STATE];
        final int[] ends = new int[MOST_CHUNKS];
        int size = 0;

        void open(int at, int n) {
            System.arraycopy(bytes, at, bytes, at + n, size - at);
            size += n;
        }

        void close(int at, int n) {
            System.arraycopy(bytes, at + n, bytes, at, size - at - n);
            size -= n;
        }

        void append(int[] row, int start, int n) {
            System.arraycopy(row, start, bytes, size, n);
            size += n;
        }

        int cut() {
            int count = 0;
            int start = 0;
            for (int end = 1; end <= size; end++) {
                if (end == size || endsChunk(start, end)) {
                    ends[count] = end;
                    count++;
                    start = end;
                }
            }
            return count;
        }

        private boolean endsChunk(int start, int end) {
            if (end - start >= MOST_CHUNK) {
                return true;
            }
            if (end - start < LEAST_CHUNK) {
                return false;
            }
            return (3 * bytes[end - 3] + 5 * bytes[end - 2] + 7 * bytes[end - 1]) % 11 == 0;
        }

        int chunkStart(int i) {
            return i == 0 ? 0 : ends[i - 1];
        }

        int chunkSize(int i) {
            return ends[i] - chunkStart(i);
        }
    }

    /** The bytes of parts at one place: in the store, or at one task as its copies. */
    private static final class Shelf {
        final boolean[] has = new boolean[MOST_PARTS];
        final int[] bytes = new int[MOST_PARTS * MOST_CHUNK];

        void put(int part, int[] row, int start, int size) {
            System.arraycopy(row, start, bytes, part * MOST_CHUNK, size);
            has[part] = true;
        }

        boolean holds(int part, int[] row, int start, int size) {
            if (!has[part]) {
                return false;
            }
            for (int i = 0; i < size; i++) {
                if (bytes[part * MOST_CHUNK + i] != row[start + i]) {
                    return false;
                }
            }
            return true;
        }

        void clear() {
            for (int part = 0; part < MOST_PARTS; part++) {
                has[part] = false;
            }
        }
    }

    /** The parts: what they were made of, and the bytes that they have now. */
    private static final class Store {
        final Shelf shelf = new Shelf();
        // How many bytes each was made of; 0: it is not there.
        final int[] sizes = new int[MOST_PARTS];
        final int[] digests = new int[MOST_PARTS];
        // The parts that the marking under way has made, for it may be refused in its midst.
        final int[] fresh = new int[MOST_PARTS];
        int freshCount = 0;
        int freshBytes = 0;
        int count = 0;
        int totalBytes = 0;

        boolean isThere(int part) {
            return part >= 0 && part < MOST_PARTS && sizes[part] > 0;
        }

        boolean isSound(int part, Shelf at) {
            return at.has[part]
                && digestOf(at.bytes, part * MOST_CHUNK, sizes[part]) == digests[part];
        }

        boolean hasByte(int part, Shelf at, int i) {
            return isThere(part) && at.has[part] && i >= 0 && i < sizes[part];
        }

        int brokenCount() {
            int broken = 0;
            for (int part = 0; part < MOST_PARTS; part++) {
                if (isThere(part) && !isSound(part, shelf)) {
                    broken++;
                }
            }
            return broken;
        }

        void beginMarking() {
            freshCount = 0;
            freshBytes = 0;
        }

        void undoMarking() {
            for (int i = 0; i < freshCount; i++) {
                takeAway(fresh[i]);
            }
        }

        /** The part for a chunk, a new one if need be; NONE: there is no room for a new one. */
        int partOf(int[] row, int start, int size) {
            int digest = digestOf(row, start, size);
            int found = findPart(row, start, size, digest);
            return found == NONE ? makePart(row, start, size, digest) : found;
        }

        /** A part with the chunk's digest and bytes isn't broken: its bytes have its digest. */
        private int findPart(int[] row, int start, int size, int digest) {
            for (int part = 0; part < MOST_PARTS; part++) {
                if (sizes[part] == size && digests[part] == digest
                    && shelf.holds(part, row, start, size)) {
                    return part;
                }
            }
            return NONE;
        }

        private int makePart(int[] row, int start, int size, int digest) {
            int part = leastUnused();
            if (part == NONE || totalBytes + size > MOST_PART_BYTES) {
                return NONE;
            }
            shelf.put(part, row, start, size);
            sizes[part] = size;
            digests[part] = digest;
            count++;
            totalBytes += size;
            fresh[freshCount] = part;
            freshCount++;
            freshBytes += size;
            return part;
        }

        private int leastUnused() {
            for (int part = 0; part < MOST_PARTS; part++) {
                if (sizes[part] == 0) {
                    return part;
                }
            }
            return NONE;
        }

        void takeAway(int part) {
            count--;
            totalBytes -= sizes[part];
            sizes[part] = 0;
            shelf.has[part] = false;
        }
    }

    /** A mark: its lists are whole here, and it knows how many of their parts it tells itself. */
    private static final class Mark {
        final int[][] lists = new int[MOST_TASKS][MOST_CHUNKS];
        final int[] sizes = new int[MOST_TASKS];
        int number = NONE;
        boolean kept = false;
        int base = NONE;
        int tasks = 0;
        int ownParts = 0;
        int listBytes = 0;
        int newBytes = 0;

        void begin(int newNumber, int taskCount) {
            number = newNumber;
            kept = true;
            base = NONE;
            tasks = taskCount;
            listBytes = 0;
        }

        int partCount() {
            int count = 0;
            for (int task = 0; task < tasks; task++) {
                count += sizes[task];
            }
            return count;
        }

        /** Null: there is nothing to grow upon, the mark is whole. */
        void growUpon(Mark below) {
            ownParts = partCount();
            if (below == null) {
                return;
            }
            base = below.number;
            for (int task = 0; task < tasks && task < below.tasks; task++) {
                ownParts -= sharedParts(below, task);
            }
        }

        private int sharedParts(Mark below, int task) {
            int most = Math.min(sizes[task], below.sizes[task]);
            int first = 0;
            while (first < most && lists[task][first] == below.lists[task][first]) {
                first++;
            }
            int last = 0;
            while (last < most - first
                && lists[task][sizes[task] - 1 - last]
                    == below.lists[task][below.sizes[task] - 1 - last]) {
                last++;
            }
            return first + last;
        }

        boolean isAlike(Mark other) {
            if (tasks != other.tasks) {
                return false;
            }
            for (int task = 0; task < tasks; task++) {
                if (!hasAlikeList(other, task)) {
                    return false;
                }
            }
            return true;
        }

        private boolean hasAlikeList(Mark other, int task) {
            if (sizes[task] != other.sizes[task]) {
                return false;
            }
            for (int i = 0; i < sizes[task]; i++) {
                if (lists[task][i] != other.lists[task][i]) {
                    return false;
                }
            }
            return true;
        }

        boolean names(int part) {
            for (int task = 0; task < tasks; task++) {
                for (int i = 0; i < sizes[task]; i++) {
                    if (lists[task][i] == part) {
                        return true;
                    }
                }
            }
            return false;
        }

        void addNames(boolean[] row) {
            for (int task = 0; task < tasks; task++) {
                for (int i = 0; i < sizes[task]; i++) {
                    row[lists[task][i]] = true;
                }
            }
        }
    }
}
