/**
 * The edges that promises 1 to 7 name, with what the terms say of them: one test for each
 * sentence, which stands above it, and each answer is labelled with the promise's number.
 */
public final class StateEdgesTest {
    private static final int NONE = Calls.NONE;
    private static final int BAD = Calls.BAD;
    private static final int FULL = Calls.FULL;
    private static final int LEAST = Calls.LEAST;
    private static final int MOST = Calls.MOST;
    private static final Due due = new Due();

    public static void main(String[] args) {
        promise1TwoTasks();
        promise1NothingMarked();
        promise1EmptyAtFirst();
        promise1ObjectsOfTheirOwn();
        promise2CountOfBytes();
        promise2LowestBytesHighestFirst();
        promise2AheadOfItsByte();
        promise2BehindAll();
        promise2NoSuchTask();
        promise2Above300();
        promise2BadAheadOfFull();
        promise3CountOfBytes();
        promise3FromAtOn();
        promise3NotSoMany();
        promise3NoSuchTask();
        promise4CountOfBytes();
        promise4FirstOfThemFrom0();
        promise4Lowest8Bits();
        promise4NoSuchTask();
        promise4Above300();
        promise4BadAheadOfFull();
        promise5FirstAndLast();
        promise5LeastAndGreatestByte();
        promise5NoSuchTask();
        promise6HowManyForNone();
        promise6NoneSuch();
        promise6EndsAt32();
        promise6NotBelow4();
        promise6AsSoonAs();
        promise6Modulo11();
        promise6LastThreeInOrder();
        promise6EndsAtTheStatesEnd();
        promise6WouldBeCut();
        promise6NoSuchTask();
        promise7OneToFour();
        promise7SharesAreCut();
        promise7NoBytes();
        promise7FewerBytesThanTasks();
        promise7HowManyThereWere();
        promise7TheSameNumber();
        promise7MoreHaveNoCopies();
        promise7CopiesOfNoMoreGo();
        promise7Above300();
        promise7BadAheadOfFull();
        due.end();
    }

    private static GrownSnapshots withTasks(int tasks) {
        GrownSnapshots x = new GrownSnapshots();
        x.rescale(tasks);
        return x;
    }

    private static GrownSnapshots withBytes(int n) {
        GrownSnapshots x = new GrownSnapshots();
        x.extend(0, n, 0, 1);
        return x;
    }

    // "Two TASKS"; "n 1 .. 4; 2 at first".
    private static void promise1TwoTasks() {
        GrownSnapshots x = new GrownSnapshots();
        due.is("1 told(0)", x.told(0), 2);
        due.is("1 task 0 is there", x.chunk(0, NONE), 0);
        due.is("1 task 1 is there", x.chunk(1, NONE), 0);
        due.is("1 task 2 is not", x.chunk(2, NONE), BAD);
    }

    // "nothing MARKED".
    private static void promise1NothingMarked() {
        GrownSnapshots x = new GrownSnapshots();
        for (int what = 1; what <= 7; what++) {
            due.is("1 told(" + what + ")", x.told(what), 0);
        }
        due.is("1 no mark was made", x.back(0), BAD);
        due.is("1 no mark is held", x.markTold(0, 0), BAD);
        due.is("1 no mark is kept", x.usable(0), BAD);
        due.is("1 no marks are the same", x.same(0, 0), false);
        due.is("1 no first part", x.partTold(0, 0), BAD);
        due.is("1 no last part", x.partTold(119, 0), BAD);
    }

    // "have each a STATE .., empty at first".
    private static void promise1EmptyAtFirst() {
        GrownSnapshots x = new GrownSnapshots();
        due.is("1 no byte of task 0", x.state(0, 0), BAD);
        due.is("1 no byte of task 1", x.state(1, 0), BAD);
        due.is("1 no bytes in all", x.told(8), 0);
    }

    // A new object has nothing of one that was made before.
    private static void promise1ObjectsOfTheirOwn() {
        GrownSnapshots x = withBytes(9);
        x.mark(0);
        x.rescale(4);
        GrownSnapshots y = new GrownSnapshots();
        due.is("1 two tasks again", y.told(0), 2);
        due.is("1 no bytes again", y.told(8), 0);
        due.is("1 no marks again", y.told(5), 0);
        due.is("1 no parts again", y.told(3), 0);
        y.extend(0, 1, 7, 0);
        due.is("1 the first one's bytes stay", x.told(8), 9);
    }

    // "n bytes (0 to 8".
    private static void promise2CountOfBytes() {
        GrownSnapshots x = withBytes(2);
        due.is("2 n 0", x.insert(0, 1, 0, -1L), 2);
        due.is("2 n 0 changes no byte", Calls.bytes(x, 0), "0 1");
        due.is("2 n 8", x.insert(0, 1, 8, 0L), 10);
        due.is("2 n 9", x.insert(0, 1, 9, 0L), BAD);
        due.is("2 n -1", x.insert(0, 1, -1, 0L), BAD);
        due.is("2 n least", x.insert(0, 1, LEAST, 0L), BAD);
        due.is("2 n greatest", x.insert(0, 1, MOST, 0L), BAD);
        due.is("2 as it was", x.told(8), 10);
    }

    // "the lowest n of v, the highest first".
    private static void promise2LowestBytesHighestFirst() {
        GrownSnapshots x = new GrownSnapshots();
        x.insert(0, 0, 8, 0xFF00807F01FE1080L);
        due.is("2 all eight", Calls.bytes(x, 0), "255 0 128 127 1 254 16 128");
        x.insert(1, 0, 1, 0xFFFFFFFFFFFFFF05L);
        due.is("2 the lowest one", Calls.bytes(x, 1), "5");
        x.insert(1, 1, 5, 0x0102030405060708L);
        due.is("2 the lowest five", Calls.bytes(x, 1), "5 4 5 6 7 8");
        x.insert(1, 6, 2, Long.MIN_VALUE);
        due.is("2 of the least", Calls.bytes(x, 1), "5 4 5 6 7 8 0 0");
    }

    // "come into a STATE ahead of its byte at".
    private static void promise2AheadOfItsByte() {
        GrownSnapshots x = withBytes(3);
        x.insert(0, 0, 2, 0x0908L);
        due.is("2 ahead of the first", Calls.bytes(x, 0), "9 8 0 1 2");
        x.insert(0, 4, 1, 7L);
        due.is("2 ahead of the last", Calls.bytes(x, 0), "9 8 0 1 7 2");
        due.is("2 at -1", x.insert(0, -1, 1, 0L), BAD);
        due.is("2 at least", x.insert(0, LEAST, 1, 0L), BAD);
        due.is("2 at -1, no bytes", x.insert(0, -1, 0, 0L), BAD);
    }

    // "(its size: behind all)".
    private static void promise2BehindAll() {
        GrownSnapshots x = new GrownSnapshots();
        due.is("2 into an empty one", x.insert(0, 0, 1, 5L), 1);
        due.is("2 at its size", x.insert(0, 1, 1, 6L), 2);
        due.is("2 behind all", Calls.bytes(x, 0), "5 6");
        due.is("2 at above its size", x.insert(0, 3, 1, 7L), BAD);
        due.is("2 at above its size, no bytes", x.insert(0, 3, 0, 7L), BAD);
        due.is("2 at greatest", x.insert(0, MOST, 1, 7L), BAD);
        due.is("2 above the empty one's size", x.insert(1, 1, 1, 7L), BAD);
    }

    // "BAD: there is no such thing": a TASK of 0 .. n - 1.
    private static void promise2NoSuchTask() {
        for (int tasks = 1; tasks <= 4; tasks++) {
            GrownSnapshots x = withTasks(tasks);
            due.is("2 the last of " + tasks, x.insert(tasks - 1, 0, 1, 0L), 1);
            due.is("2 behind the last of " + tasks, x.insert(tasks, 0, 1, 0L), BAD);
            due.is("2 task -1 of " + tasks, x.insert(-1, 0, 1, 0L), BAD);
            due.is("2 task least of " + tasks, x.insert(LEAST, 0, 1, 0L), BAD);
            due.is("2 task greatest of " + tasks, x.insert(MOST, 0, 1, 0L), BAD);
        }
    }

    // "FULL: above 300".
    private static void promise2Above300() {
        GrownSnapshots x = withBytes(292);
        due.is("2 just 300", x.insert(0, 0, 8, 0L), 300);
        due.is("2 one above", x.insert(0, 0, 1, 0L), FULL);
        due.is("2 eight above", x.insert(0, 300, 8, 0L), FULL);
        due.is("2 none into a full one", x.insert(0, 300, 0, 0L), 300);
        due.is("2 the full one stays", x.state(0, 299), 291 & 255);
        due.is("2 the other task has room", x.insert(1, 0, 8, 0L), 8);
        x.remove(0, 0, 1);
        due.is("2 two into 299", x.insert(0, 299, 2, 0L), FULL);
        due.is("2 one into 299", x.insert(0, 299, 1, 0L), 300);
    }

    // "refusals, the first that is so: BAD ..; FULL".
    private static void promise2BadAheadOfFull() {
        GrownSnapshots x = withBytes(300);
        due.is("2 n 9 into a full one", x.insert(0, 0, 9, 0L), BAD);
        due.is("2 n -1 into a full one", x.insert(0, 0, -1, 0L), BAD);
        due.is("2 at 301 of a full one", x.insert(0, 301, 1, 0L), BAD);
        due.is("2 at -1 of a full one", x.insert(0, -1, 1, 0L), BAD);
    }

    // "n bytes (0 and more) of a STATE go".
    private static void promise3CountOfBytes() {
        GrownSnapshots x = withBytes(5);
        due.is("3 none", x.remove(0, 2, 0), 5);
        due.is("3 n -1", x.remove(0, 2, -1), BAD);
        due.is("3 n -1 at the end", x.remove(0, 5, -1), BAD);
        due.is("3 n least", x.remove(0, 2, LEAST), BAD);
        due.is("3 as it was", Calls.bytes(x, 0), "0 1 2 3 4");
        due.is("3 all", x.remove(0, 0, 5), 0);
        due.is("3 none of none", x.remove(0, 0, 0), 0);
        x.extend(0, 300, 0, 0);
        due.is("3 all 300", x.remove(0, 0, 300), 0);
    }

    // "from at on".
    private static void promise3FromAtOn() {
        GrownSnapshots x = withBytes(6);
        due.is("3 the first", x.remove(0, 0, 1), 5);
        due.is("3 not the first", Calls.bytes(x, 0), "1 2 3 4 5");
        due.is("3 the last", x.remove(0, 4, 1), 4);
        due.is("3 not the last", Calls.bytes(x, 0), "1 2 3 4");
        due.is("3 none from the end on", x.remove(0, 4, 0), 4);
        due.is("3 at -1", x.remove(0, -1, 1), BAD);
        due.is("3 at -1, none", x.remove(0, -1, 0), BAD);
        due.is("3 at least", x.remove(0, LEAST, 0), BAD);
        due.is("3 none from behind the end on", x.remove(0, 5, 0), BAD);
        due.is("3 none from far behind on", x.remove(0, MOST, 0), BAD);
    }

    // "BAD: also not so many"; their sum must not wrap around.
    private static void promise3NotSoMany() {
        GrownSnapshots x = withBytes(4);
        due.is("3 one too many", x.remove(0, 0, 5), BAD);
        due.is("3 one too many behind the first", x.remove(0, 1, 4), BAD);
        due.is("3 one at the end", x.remove(0, 4, 1), BAD);
        due.is("3 the most", x.remove(0, 1, MOST), BAD);
        due.is("3 the most from the farthest on", x.remove(0, MOST, MOST), BAD);
        due.is("3 one from the farthest on", x.remove(0, MOST, 1), BAD);
        due.is("3 one of an empty one", x.remove(1, 0, 1), BAD);
        due.is("3 as it was", Calls.bytes(x, 0), "0 1 2 3");
        due.is("3 just so many", x.remove(0, 1, 3), 1);
    }

    // "BAD: there is no such thing".
    private static void promise3NoSuchTask() {
        for (int tasks = 1; tasks <= 4; tasks++) {
            GrownSnapshots x = withTasks(tasks);
            due.is("3 the last of " + tasks, x.remove(tasks - 1, 0, 0), 0);
            due.is("3 behind the last of " + tasks, x.remove(tasks, 0, 0), BAD);
            due.is("3 task -1 of " + tasks, x.remove(-1, 0, 0), BAD);
            due.is("3 task least of " + tasks, x.remove(LEAST, 0, 0), BAD);
            due.is("3 task greatest of " + tasks, x.remove(MOST, 0, 0), BAD);
        }
    }

    // "So many bytes (0 to 300) come behind a STATE".
    private static void promise4CountOfBytes() {
        GrownSnapshots x = new GrownSnapshots();
        due.is("4 none", x.extend(0, 0, 5, 5), 0);
        due.is("4 n -1", x.extend(0, -1, 5, 5), BAD);
        due.is("4 n least", x.extend(0, LEAST, 5, 5), BAD);
        due.is("4 n 301", x.extend(0, 301, 5, 5), BAD);
        due.is("4 n greatest", x.extend(0, MOST, 5, 5), BAD);
        due.is("4 as it was", x.told(8), 0);
        due.is("4 n 300", x.extend(0, 300, 5, 5), 300);
    }

    // "the i-th, from 0 on, being (v + i * step)".
    private static void promise4FirstOfThemFrom0() {
        GrownSnapshots x = withBytes(2);
        x.extend(0, 3, 10, 7);
        due.is("4 the first is v, behind the state", Calls.bytes(x, 0), "0 1 10 17 24");
        x.extend(0, 2, 9, 0);
        due.is("4 no step", Calls.bytes(x, 0), "0 1 10 17 24 9 9");
    }

    // "its lowest 8 bits".
    private static void promise4Lowest8Bits() {
        GrownSnapshots x = new GrownSnapshots();
        x.extend(0, 3, 255, 1);
        due.is("4 above 255", Calls.bytes(x, 0), "255 0 1");
        x.extend(0, 3, 1, -1);
        due.is("4 below 0", Calls.bytes(x, 0), "255 0 1 1 0 255");
        x.extend(1, 2, MOST, 1);
        due.is("4 above the greatest", Calls.bytes(x, 1), "255 0");
        x.extend(1, 2, LEAST, -1);
        due.is("4 below the least", Calls.bytes(x, 1), "255 0 0 255");
        x.extend(1, 4, 3, LEAST + 1);
        due.is("4 steps beyond 32 bits", Calls.bytes(x, 1), "255 0 0 255 3 4 5 6");
    }

    // "BAD: there is no such thing".
    private static void promise4NoSuchTask() {
        for (int tasks = 1; tasks <= 4; tasks++) {
            GrownSnapshots x = withTasks(tasks);
            due.is("4 the last of " + tasks, x.extend(tasks - 1, 1, 0, 0), 1);
            due.is("4 behind the last of " + tasks, x.extend(tasks, 1, 0, 0), BAD);
            due.is("4 task -1 of " + tasks, x.extend(-1, 1, 0, 0), BAD);
            due.is("4 task least of " + tasks, x.extend(LEAST, 1, 0, 0), BAD);
            due.is("4 task greatest of " + tasks, x.extend(MOST, 1, 0, 0), BAD);
        }
    }

    // "FULL": a STATE has 300 bytes at most.
    private static void promise4Above300() {
        GrownSnapshots x = withBytes(1);
        due.is("4 one above", x.extend(0, 300, 0, 0), FULL);
        due.is("4 nothing came", x.told(8), 1);
        due.is("4 just 300", x.extend(0, 299, 0, 0), 300);
        due.is("4 one into a full one", x.extend(0, 1, 0, 0), FULL);
        due.is("4 none into a full one", x.extend(0, 0, 0, 0), 300);
        due.is("4 the other task has room", x.extend(1, 300, 0, 0), 300);
    }

    // "refusals, the first that is so: BAD ..; FULL".
    private static void promise4BadAheadOfFull() {
        GrownSnapshots x = withBytes(300);
        due.is("4 n 301 behind a full one", x.extend(0, 301, 0, 0), BAD);
        due.is("4 n -1 behind a full one", x.extend(0, -1, 0, 0), BAD);
        due.is("4 n 300 behind a full one", x.extend(0, 300, 0, 0), FULL);
    }

    // "Byte i of a STATE. BAD".
    private static void promise5FirstAndLast() {
        GrownSnapshots x = withBytes(300);
        due.is("5 the first", x.state(0, 0), 0);
        due.is("5 the last", x.state(0, 299), 299 & 255);
        due.is("5 behind the last", x.state(0, 300), BAD);
        due.is("5 ahead of the first", x.state(0, -1), BAD);
        due.is("5 i least", x.state(0, LEAST), BAD);
        due.is("5 i greatest", x.state(0, MOST), BAD);
        due.is("5 of an empty one", x.state(1, 0), BAD);
        x.remove(0, 10, 290);
        due.is("5 the last now", x.state(0, 9), 9);
        due.is("5 what went", x.state(0, 10), BAD);
    }

    // "bytes (0 .. 255)".
    private static void promise5LeastAndGreatestByte() {
        GrownSnapshots x = new GrownSnapshots();
        x.insert(0, 0, 4, 0xFF7F8000L);
        due.is("5 the greatest", x.state(0, 0), 255);
        due.is("5 127", x.state(0, 1), 127);
        due.is("5 128", x.state(0, 2), 128);
        due.is("5 the least", x.state(0, 3), 0);
    }

    // "BAD: there is no such thing".
    private static void promise5NoSuchTask() {
        for (int tasks = 1; tasks <= 4; tasks++) {
            GrownSnapshots x = withTasks(tasks);
            x.extend(tasks - 1, 1, 7, 0);
            due.is("5 the last of " + tasks, x.state(tasks - 1, 0), 7);
            due.is("5 behind the last of " + tasks, x.state(tasks, 0), BAD);
            due.is("5 task -1 of " + tasks, x.state(-1, 0), BAD);
            due.is("5 task least of " + tasks, x.state(LEAST, 0), BAD);
            due.is("5 task greatest of " + tasks, x.state(MOST, 0), BAD);
        }
    }

    // "how many there are for i NONE".
    private static void promise6HowManyForNone() {
        GrownSnapshots x = new GrownSnapshots();
        due.is("6 of an empty one", x.chunk(0, NONE), 0);
        x.extend(0, 1, 0, 0);
        due.is("6 of one byte", x.chunk(0, NONE), 1);
        x.extend(0, 299, 0, 0);
        due.is("6 the most", x.chunk(0, NONE), 75);
        x.extend(1, 300, 7, 0);
        due.is("6 the fewest of 300 bytes", x.chunk(1, NONE), 10);
    }

    // "the i-th (i 0 and more)"; "BAD: also none such".
    private static void promise6NoneSuch() {
        GrownSnapshots x = new GrownSnapshots();
        due.is("6 the first of none", x.chunk(0, 0), BAD);
        x.extend(0, 300, 0, 0);
        due.is("6 the first", x.chunk(0, 0), 4);
        due.is("6 the last", x.chunk(0, 74), 4);
        due.is("6 behind the last", x.chunk(0, 75), BAD);
        due.is("6 i greatest", x.chunk(0, MOST), BAD);
        due.is("6 i -2", x.chunk(0, -2), BAD);
        due.is("6 i least", x.chunk(0, LEAST), BAD);
        x.remove(0, 1, 299);
        due.is("6 one that was", x.chunk(0, 1), BAD);
    }

    // "a CHUNK ends behind its k-th byte as soon as k is 32".
    private static void promise6EndsAt32() {
        GrownSnapshots x = new GrownSnapshots();
        x.extend(0, 31, 7, 0);
        due.is("6 31 bytes are one", x.chunk(0, NONE), 1);
        x.extend(0, 1, 7, 0);
        due.is("6 32 bytes are one", x.chunk(0, NONE), 1);
        due.is("6 of 32", x.chunk(0, 0), 32);
        x.extend(0, 1, 7, 0);
        due.is("6 33 bytes are two", x.chunk(0, NONE), 2);
        due.is("6 32 first", x.chunk(0, 0), 32);
        due.is("6 one then", x.chunk(0, 1), 1);
    }

    // "or k is 4 or more and ..".
    private static void promise6NotBelow4() {
        GrownSnapshots x = new GrownSnapshots();
        // 3 * 1 + 5 * 1 + 7 * 2 is 22, at the third byte; then 3 * 1 + 5 * 2 + 7 * 1 is 20.
        x.insert(0, 0, 4, 0x01010201L);
        x.insert(0, 4, 1, 9L);
        due.is("6 not at the third", x.chunk(0, NONE), 1);
        x.insert(1, 0, 5, 0x0901010209L);
        due.is("6 at the fourth", x.chunk(1, 0), 4);
        due.is("6 the rest", x.chunk(1, 1), 1);
        // Those of the next chunk count from its own beginning.
        x.insert(1, 4, 3, 0x010102L);
        due.is("6 not at the third of the second", x.chunk(1, NONE), 2);
        due.is("6 all four of it", x.chunk(1, 1), 4);
    }

    // "as soon as": the first k at which it is so, 31 as well as 4.
    private static void promise6AsSoonAs() {
        GrownSnapshots x = new GrownSnapshots();
        x.extend(0, 12, 11, 0);
        due.is("6 as soon as can be", x.chunk(0, 0), 4);
        due.is("6 again and again", x.chunk(0, NONE), 3);
        x.extend(1, 30, 7, 0);
        // 3 * 7 + 5 * 7 + 7 * 3 is 77.
        x.extend(1, 1, 3, 0);
        x.extend(1, 2, 7, 0);
        due.is("6 at the 31st", x.chunk(1, 0), 31);
        due.is("6 the two behind it", x.chunk(1, 1), 2);
    }

    // "(3 x + 5 y + 7 z) modulo 11 is 0".
    private static void promise6Modulo11() {
        for (int z = 0; z < 256; z++) {
            GrownSnapshots x = new GrownSnapshots();
            x.insert(0, 0, 5, 0x0900000009L | (long) z << 8);
            due.is("6 z " + z, x.chunk(0, 0), z % 11 == 0 ? 4 : 5);
        }
        GrownSnapshots y = new GrownSnapshots();
        // 15 * 255 is 3825, 8 more than 347 * 11; 3825 - 7 * 9 is 3762, 342 * 11.
        y.insert(0, 0, 6, 0xFFFFFFFFFFFFL);
        due.is("6 the greatest", y.chunk(0, 0), 6);
        y.insert(0, 3, 1, 246L);
        due.is("6 a great one", y.chunk(0, 0), 4);
    }

    // "x, y, z being its last three bytes in order".
    private static void promise6LastThreeInOrder() {
        // 3 * 1 + 5 * 2 + 7 * 6 is 55; in the other orders 47, 53, 43, 37 and 35.
        int[][] orders = {{1, 2, 6}, {1, 6, 2}, {2, 1, 6}, {2, 6, 1}, {6, 1, 2}, {6, 2, 1}};
        for (int[] order : orders) {
            GrownSnapshots x = new GrownSnapshots();
            x.insert(0, 0, 1, 9L);
            for (int i = 0; i < 3; i++) {
                x.insert(0, i + 1, 1, order[i]);
            }
            x.insert(0, 4, 1, 9L);
            int sum = 3 * order[0] + 5 * order[1] + 7 * order[2];
            due.is("6 sum " + sum, x.chunk(0, 0), sum % 11 == 0 ? 4 : 5);
        }
    }

    // "or at the STATE's end": also where a chunk ends anyway, and none of no bytes comes then.
    private static void promise6EndsAtTheStatesEnd() {
        GrownSnapshots x = new GrownSnapshots();
        for (int size = 1; size <= 3; size++) {
            x.extend(0, 1, 0, 0);
            due.is("6 one of few bytes", x.chunk(0, NONE), 1);
            due.is("6 of " + size, x.chunk(0, 0), size);
        }
        x.extend(0, 1, 0, 0);
        due.is("6 just one of four", x.chunk(0, NONE), 1);
        x.extend(1, 64, 7, 0);
        due.is("6 just two of 32", x.chunk(1, NONE), 2);
        x.extend(1, 5, 7, 0);
        due.is("6 the rest", x.chunk(1, 2), 5);
    }

    // "How many CHUNKS a STATE would be cut into": nothing is cut yet.
    private static void promise6WouldBeCut() {
        GrownSnapshots x = withBytes(9);
        x.chunk(0, NONE);
        due.is("6 the bytes stay", Calls.bytes(x, 0), "0 1 2 3 4 5 6 7 8");
        due.is("6 no parts", x.told(3), 0);
        x.mark(0);
        x.remove(0, 0, 9);
        due.is("6 of the state as it is, marked or not", x.chunk(0, NONE), 0);
    }

    // "BAD: there is no such thing".
    private static void promise6NoSuchTask() {
        for (int tasks = 1; tasks <= 4; tasks++) {
            GrownSnapshots x = withTasks(tasks);
            due.is("6 the last of " + tasks, x.chunk(tasks - 1, NONE), 0);
            due.is("6 behind the last of " + tasks, x.chunk(tasks, NONE), BAD);
            due.is("6 task -1 of " + tasks, x.chunk(-1, NONE), BAD);
            due.is("6 task least of " + tasks, x.chunk(LEAST, NONE), BAD);
            due.is("6 task greatest of " + tasks, x.chunk(MOST, NONE), BAD);
        }
    }

    // "n 1 .. 4".
    private static void promise7OneToFour() {
        GrownSnapshots x = new GrownSnapshots();
        due.is("7 none", x.rescale(0), BAD);
        due.is("7 -1", x.rescale(-1), BAD);
        due.is("7 least", x.rescale(LEAST), BAD);
        due.is("7 five", x.rescale(5), BAD);
        due.is("7 greatest", x.rescale(MOST), BAD);
        due.is("7 still two", x.told(0), 2);
        due.is("7 one", x.rescale(1), 2);
        due.is("7 only task 0", x.chunk(1, NONE), BAD);
        due.is("7 four", x.rescale(4), 1);
        due.is("7 task 3, too", x.chunk(3, NONE), 0);
        due.is("7 no task 4", x.chunk(4, NONE), BAD);
    }

    // "those from T i / n (cut) on, up to T (i + 1) / n".
    private static void promise7SharesAreCut() {
        GrownSnapshots x = withTasks(4);
        x.extend(0, 5, 0, 1);
        x.extend(3, 6, 5, 1);
        due.is("7 eleven for three", x.rescale(3), 4);
        due.is("7 the first of three", Calls.bytes(x, 0), "0 1 2");
        due.is("7 the second of three", Calls.bytes(x, 1), "3 4 5 6");
        due.is("7 the third of three", Calls.bytes(x, 2), "7 8 9 10");
        due.is("7 eleven for four", x.rescale(4), 3);
        due.is("7 the first of four", Calls.bytes(x, 0), "0 1");
        due.is("7 the second of four", Calls.bytes(x, 1), "2 3 4");
        due.is("7 the third of four", Calls.bytes(x, 2), "5 6 7");
        due.is("7 the fourth of four", Calls.bytes(x, 3), "8 9 10");
        due.is("7 all bytes", x.told(8), 11);
    }

    // T is 0.
    private static void promise7NoBytes() {
        for (int tasks = 1; tasks <= 4; tasks++) {
            GrownSnapshots x = new GrownSnapshots();
            due.is("7 of no bytes", x.rescale(tasks), 2);
            due.is("7 so many", x.told(0), tasks);
            due.is("7 the last is empty", x.state(tasks - 1, 0), BAD);
            due.is("7 no bytes come", x.told(8), 0);
        }
    }

    // T is less than n.
    private static void promise7FewerBytesThanTasks() {
        GrownSnapshots x = withBytes(3);
        x.rescale(4);
        due.is("7 nothing for the first", Calls.bytes(x, 0), "");
        due.is("7 one for the second", Calls.bytes(x, 1), "0");
        due.is("7 one for the third", Calls.bytes(x, 2), "1");
        due.is("7 one for the fourth", Calls.bytes(x, 3), "2");
    }

    // "How many TASKS there were".
    private static void promise7HowManyThereWere() {
        GrownSnapshots x = new GrownSnapshots();
        int before = 2;
        for (int tasks : new int[] {4, 1, 3, 2, 1, 4, 2, 3}) {
            due.is("7 there were", x.rescale(tasks), before);
            before = tasks;
        }
    }

    // "Another number of TASKS": the same one is not ruled out, and shares the bytes out.
    private static void promise7TheSameNumber() {
        GrownSnapshots x = withBytes(5);
        x.mark(0);
        due.is("7 two of two", x.rescale(2), 2);
        due.is("7 the first of five", Calls.bytes(x, 0), "0 1");
        due.is("7 the rest of five", Calls.bytes(x, 1), "2 3 4");
        due.is("7 copies stay", x.told(7), x.told(3));
    }

    private static GrownSnapshots withCopiesAtFour() {
        GrownSnapshots x = withTasks(4);
        for (int task = 0; task < 4; task++) {
            Calls.addShort(x, task, 1);
        }
        x.mark(0);
        return x;
    }

    // "those that are more have no COPIES": also where a task of that number had some once.
    private static void promise7MoreHaveNoCopies() {
        GrownSnapshots x = withCopiesAtFour();
        x.rescale(1);
        x.rescale(4);
        due.is("7 one copy", x.partTold(0, 4), 1);
        due.is("7 task 0 has it", x.partByte(0, 0, 0), 1);
        for (int task = 1; task < 4; task++) {
            due.is("7 none at " + task, x.partByte(0, task, 0), BAD);
        }
    }

    // "COPIES of those that are no more go": and no others.
    private static void promise7CopiesOfNoMoreGo() {
        for (int tasks = 1; tasks <= 4; tasks++) {
            GrownSnapshots x = withCopiesAtFour();
            x.rescale(tasks);
            due.is("7 copies at " + tasks, x.told(7), tasks);
            due.is("7 the last one's", x.partByte(0, tasks - 1, 0), 1);
            due.is("7 none at one that is no more", x.partByte(0, tasks, 0), BAD);
            due.is("7 the part stays", x.partByte(0, NONE, 0), 1);
        }
    }

    /** Four tasks with so many bytes in all. */
    private static GrownSnapshots withBytesAtFour(int total) {
        GrownSnapshots x = withTasks(4);
        int left = total;
        for (int task = 0; task < 4; task++) {
            x.extend(task, Math.min(300, left), task, 0);
            left -= Math.min(300, left);
        }
        return x;
    }

    // "FULL: a STATE would be above 300": the last one may be the only one.
    private static void promise7Above300() {
        for (int tasks = 1; tasks <= 3; tasks++) {
            due.is("7 just so many", withBytesAtFour(300 * tasks).rescale(tasks), 4);
            GrownSnapshots x = withBytesAtFour(300 * tasks + 1);
            due.is("7 one above for " + tasks, x.rescale(tasks), FULL);
            due.is("7 four tasks stay", x.told(0), 4);
            due.is("7 the first stays", x.state(0, 299), 0);
            due.is("7 the one above stays", x.state(tasks, 0), tasks);
            due.is("7 one task more has room", x.rescale(tasks + 1), 4);
        }
        GrownSnapshots y = withBytesAtFour(1200);
        due.is("7 1200 for four", y.rescale(4), 4);
        due.is("7 1200 for three", y.rescale(3), FULL);
    }

    // "refusals, the first that is so: BAD ..; FULL".
    private static void promise7BadAheadOfFull() {
        GrownSnapshots x = withBytesAtFour(1200);
        due.is("7 none", x.rescale(0), BAD);
        due.is("7 -1", x.rescale(-1), BAD);
        due.is("7 five", x.rescale(5), BAD);
    }
}
