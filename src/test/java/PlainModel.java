import java.util.ArrayList;
import java.util.Arrays;
import java.util.List;
import java.util.Map;
import java.util.TreeMap;

/**
 * The document told again with the Java library's collections, as plainly as can be: every
 * answer is worked out anew from lists and maps, and marking works on a copy of the store.
 */
final class PlainModel {
    private static final int NONE = -1;
    private static final int BAD = -2;
    private static final int FULL = -3;

    private static final class Part {
        int madeOf;
        int digest;
        List<Integer> bytes; // null: lost
    }

    private static final class Mark {
        boolean kept = true;
        int base = NONE;
        int told;
        int bytes;
        int newBytes;
        List<List<Integer>> lists = new ArrayList<>();
    }

    private List<List<Integer>> states = new ArrayList<>();
    private List<Map<Integer, List<Integer>>> copies = new ArrayList<>();
    private TreeMap<Integer, Part> parts = new TreeMap<>();
    private final List<Mark> marks = new ArrayList<>();

    PlainModel() {
        addTask();
        addTask();
    }

    private void addTask() {
        states.add(new ArrayList<>());
        copies.add(new TreeMap<>());
    }

    private void setTasks(int n) {
        while (states.size() < n) {
            addTask();
        }
        while (states.size() > n) {
            states.remove(states.size() - 1);
            copies.remove(copies.size() - 1);
        }
    }

    private boolean noTask(int task) {
        return task < 0 || task >= states.size();
    }

    static int digest(List<Integer> bytes) {
        int h = 1;
        for (int b : bytes) {
            h = (31 * h + b) % 61;
        }
        return h;
    }

    private static List<List<Integer>> cut(List<Integer> state) {
        List<List<Integer>> chunks = new ArrayList<>();
        List<Integer> chunk = new ArrayList<>();
        for (int b : state) {
            chunk.add(b);
            int k = chunk.size();
            boolean ends = k == 32;
            if (k >= 4) {
                int sum = 3 * chunk.get(k - 3) + 5 * chunk.get(k - 2) + 7 * chunk.get(k - 1);
                ends = ends || sum % 11 == 0;
            }
            if (ends) {
                chunks.add(chunk);
                chunk = new ArrayList<>();
            }
        }
        if (!chunk.isEmpty()) {
            chunks.add(chunk);
        }
        return chunks;
    }

    int insert(int task, int at, int n, long v) {
        if (noTask(task) || n < 0 || n > 8 || at < 0 || at > states.get(task).size()) {
            return BAD;
        }
        List<Integer> state = states.get(task);
        if (state.size() + n > 300) {
            return FULL;
        }
        long rest = v;
        for (int i = 0; i < n; i++) {
            state.add(at, (int) Math.floorMod(rest, 256L));
            rest = Math.floorDiv(rest, 256L);
        }
        return state.size();
    }

    int remove(int task, int at, int n) {
        if (noTask(task) || at < 0 || n < 0 || (long) at + n > states.get(task).size()) {
            return BAD;
        }
        states.get(task).subList(at, at + n).clear();
        return states.get(task).size();
    }

    int extend(int task, int n, int v, int step) {
        if (noTask(task) || n < 0 || n > 300) {
            return BAD;
        }
        if (states.get(task).size() + n > 300) {
            return FULL;
        }
        for (int i = 0; i < n; i++) {
            states.get(task).add((int) Math.floorMod((long) v + (long) i * step, 256L));
        }
        return states.get(task).size();
    }

    int state(int task, int i) {
        return noTask(task) || i < 0 || i >= states.get(task).size() ? BAD : states.get(task).get(i);
    }

    int chunk(int task, int i) {
        if (noTask(task) || i < -1) {
            return BAD;
        }
        List<List<Integer>> chunks = cut(states.get(task));
        if (i == NONE) {
            return chunks.size();
        }
        return i < chunks.size() ? chunks.get(i).size() : BAD;
    }

    int rescale(int tasks) {
        if (tasks < 1 || tasks > 4) {
            return BAD;
        }
        List<Integer> all = new ArrayList<>();
        states.forEach(all::addAll);
        List<List<Integer>> shares = new ArrayList<>();
        for (int i = 0; i < tasks; i++) {
            shares.add(new ArrayList<>(
                all.subList(all.size() * i / tasks, all.size() * (i + 1) / tasks)));
            if (shares.get(i).size() > 300) {
                return FULL;
            }
        }
        int before = states.size();
        setTasks(tasks);
        states = shares;
        return before;
    }

    int mark(int whole) {
        if (whole != 0 && whole != 1) {
            return BAD;
        }
        if (heldCount() == 12) {
            return FULL;
        }
        TreeMap<Integer, Part> store = new TreeMap<>(parts);
        List<Map<Integer, List<Integer>>> had = new ArrayList<>();
        Mark mark = new Mark();
        for (int task = 0; task < states.size(); task++) {
            Map<Integer, List<Integer>> own = new TreeMap<>(copies.get(task));
            List<Integer> list = new ArrayList<>();
            for (List<Integer> chunk : cut(states.get(task))) {
                int part = find(store, chunk);
                if (part == NONE) {
                    part = add(store, chunk);
                    mark.newBytes += chunk.size();
                }
                own.put(part, new ArrayList<>(chunk));
                list.add(part);
                mark.bytes += chunk.size();
            }
            had.add(own);
            mark.lists.add(list);
        }
        if (store.size() > 120 || madeBytes(store) > 2400) {
            return FULL;
        }
        parts = store;
        copies = had;
        tell(mark, whole);
        marks.add(mark);
        return marks.size() - 1;
    }

    private static int find(TreeMap<Integer, Part> store, List<Integer> chunk) {
        for (Map.Entry<Integer, Part> entry : store.entrySet()) {
            Part part = entry.getValue();
            if (!broken(part, part.bytes) && part.digest == digest(chunk)
                && part.bytes.equals(chunk)) {
                return entry.getKey();
            }
        }
        return NONE;
    }

    private static int add(TreeMap<Integer, Part> store, List<Integer> chunk) {
        int number = 0;
        while (store.containsKey(number)) {
            number++;
        }
        Part part = new Part();
        part.madeOf = chunk.size();
        part.digest = digest(chunk);
        part.bytes = new ArrayList<>(chunk);
        store.put(number, part);
        return number;
    }

    private void tell(Mark mark, int whole) {
        for (int i = 0; i < marks.size() && whole == 0; i++) {
            if (marks.get(i).kept) {
                mark.base = i;
            }
        }
        for (int task = 0; task < mark.lists.size(); task++) {
            List<Integer> list = new ArrayList<>(mark.lists.get(task));
            if (mark.base != NONE && task < marks.get(mark.base).lists.size()) {
                List<Integer> below = new ArrayList<>(marks.get(mark.base).lists.get(task));
                while (!list.isEmpty() && !below.isEmpty() && list.get(0).equals(below.get(0))) {
                    list.remove(0);
                    below.remove(0);
                }
                while (!list.isEmpty() && !below.isEmpty()
                    && list.get(list.size() - 1).equals(below.get(below.size() - 1))) {
                    list.remove(list.size() - 1);
                    below.remove(below.size() - 1);
                }
            }
            mark.told += list.size();
        }
    }

    private static int madeBytes(TreeMap<Integer, Part> store) {
        return store.values().stream().mapToInt(part -> part.madeOf).sum();
    }

    private static boolean broken(Part part, List<Integer> bytes) {
        return bytes == null || digest(bytes) != part.digest;
    }

    private boolean notKept(int mark) {
        return mark < 0 || mark >= marks.size() || !marks.get(mark).kept;
    }

    private boolean isHeld(int mark) {
        if (mark < 0 || mark >= marks.size()) {
            return false;
        }
        boolean is = marks.get(mark).kept;
        for (int other = mark + 1; other < marks.size() && !is; other++) {
            is = marks.get(other).base == mark && isHeld(other);
        }
        return is;
    }

    private int heldCount() {
        int count = 0;
        for (int mark = 0; mark < marks.size(); mark++) {
            count += isHeld(mark) ? 1 : 0;
        }
        return count;
    }

    private int naming(int part) {
        int count = 0;
        for (Mark mark : marks) {
            if (mark.kept && mark.lists.stream().anyMatch(list -> list.contains(part))) {
                count++;
            }
        }
        return count;
    }

    int drop(int mark) {
        if (notKept(mark)) {
            return BAD;
        }
        marks.get(mark).kept = false;
        int freed = 0;
        for (int part : new ArrayList<>(parts.keySet())) {
            if (naming(part) == 0) {
                parts.remove(part);
                copies.forEach(own -> own.remove(part));
                freed++;
            }
        }
        return freed;
    }

    private boolean readable(int part, int task) {
        Part of = parts.get(part);
        return task < copies.size() && !broken(of, copies.get(task).get(part))
            || !broken(of, of.bytes);
    }

    int usable(int mark) {
        if (notKept(mark)) {
            return BAD;
        }
        List<List<Integer>> lists = marks.get(mark).lists;
        for (int task = 0; task < lists.size(); task++) {
            for (int part : lists.get(task)) {
                if (!readable(part, task)) {
                    return 0;
                }
            }
        }
        return 1;
    }

    int back(int mark) {
        if (mark < 0 || mark >= marks.size()) {
            return BAD;
        }
        int to = mark;
        while (to >= 0 && usable(to) != 1) {
            to--;
        }
        if (to < 0) {
            return NONE;
        }
        List<List<Integer>> lists = marks.get(to).lists;
        setTasks(lists.size());
        for (int task = 0; task < lists.size(); task++) {
            List<Integer> state = new ArrayList<>();
            for (int part : lists.get(task)) {
                if (broken(parts.get(part), copies.get(task).get(part))) {
                    copies.get(task).put(part, new ArrayList<>(parts.get(part).bytes));
                }
                state.addAll(copies.get(task).get(part));
            }
            states.set(task, state);
        }
        return to;
    }

    int markTold(int number, int what) {
        if (!isHeld(number) || what < 0 || what > 6) {
            return BAD;
        }
        Mark mark = marks.get(number);
        int all = mark.lists.stream().mapToInt(List::size).sum();
        return Arrays.asList(mark.kept ? 1 : 0, mark.base, mark.lists.size(), all, mark.told,
            mark.bytes, mark.newBytes).get(what);
    }

    int list(int mark, int task, int i) {
        if (notKept(mark) || task < 0 || task >= marks.get(mark).lists.size() || i < 0) {
            return BAD;
        }
        List<Integer> list = marks.get(mark).lists.get(task);
        return i < list.size() ? list.get(i) : NONE;
    }

    boolean same(int a, int b) {
        return !notKept(a) && !notKept(b) && marks.get(a).lists.equals(marks.get(b).lists);
    }

    int partTold(int number, int what) {
        Part part = parts.get(number);
        if (part == null || what < 0 || what > 4) {
            return BAD;
        }
        int having = (int) copies.stream().filter(own -> own.containsKey(number)).count();
        return Arrays.asList(part.madeOf, part.digest, naming(number),
            broken(part, part.bytes) ? 1 : 0, having).get(what);
    }

    private List<Integer> bytesOf(int part, int task) {
        if (!parts.containsKey(part) || task != NONE && noTask(task)) {
            return null;
        }
        return task == NONE ? parts.get(part).bytes : copies.get(task).get(part);
    }

    int partByte(int part, int task, int i) {
        List<Integer> bytes = bytesOf(part, task);
        return bytes == null || i < 0 || i >= bytes.size() ? BAD : bytes.get(i);
    }

    int alter(int part, int task, int i, int bits) {
        if (partByte(part, task, i) == BAD || bits < 0 || bits > 255) {
            return BAD;
        }
        bytesOf(part, task).set(i, partByte(part, task, i) ^ bits);
        return partByte(part, task, i);
    }

    int lose(int part, int task) {
        if (bytesOf(part, task) == null) {
            return BAD;
        }
        if (task == NONE) {
            parts.get(part).bytes = null;
        } else {
            copies.get(task).remove(part);
        }
        return 1;
    }

    int told(int what) {
        if (what < 0 || what > 8) {
            return BAD;
        }
        int kept = (int) marks.stream().filter(mark -> mark.kept).count();
        int broken = (int) parts.values().stream().filter(p -> broken(p, p.bytes)).count();
        return Arrays.asList(states.size(), kept, heldCount(), parts.size(), madeBytes(parts),
            marks.size(), broken, copies.stream().mapToInt(Map::size).sum(),
            states.stream().mapToInt(List::size).sum()).get(what);
    }
}
