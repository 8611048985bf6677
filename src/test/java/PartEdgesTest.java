/**
 * The edges that promises 15 to 19 name, with what the terms say of parts and copies: one test
 * for each sentence, which stands above it, and each answer is labelled with the promise's
 * number.
 */
public final class PartEdgesTest {
    private static final int NONE = Calls.NONE;
    private static final int BAD = Calls.BAD;
    private static final int LEAST = Calls.LEAST;
    private static final int MOST = Calls.MOST;
    private static final int[] NO_PARTS = {-1, -2, 1, 119, 120, 121, LEAST, MOST};
    private static final int[] NO_TASKS = {-2, 2, 3, 4, LEAST, MOST};
    private static final Due due = new Due();

    public static void main(String[] args) {
        promise15NotThere();
        promise15What();
        promise15BytesItWasMadeOf();
        promise15Digest();
        promise15DigestWhenItWasMade();
        promise15KeptMarksEachOnce();
        promise15Broken();
        promise15CopiesAtTasks();
        promise16NotThere();
        promise16FirstAndLast();
        promise16NoSuchTask();
        promise16Lost();
        promise16NoCopy();
        promise16ItsOwnBytes();
        promise17BitsTurned();
        promise17BitsTooMany();
        promise17BadLikewise();
        promise17OnlyThisByte();
        promise18NotThere();
        promise18LostAlready();
        promise18StaysThere();
        promise18CopyNoMore();
        promise18NoSuchTask();
        promise19What();
        promise19Tasks();
        promise19KeptAndHeld();
        promise19PartsAndTheirBytes();
        promise19NextMark();
        promise19BrokenParts();
        promise19Copies();
        promise19BytesOfStates();
        due.end();
    }

    /** One part, 0, of four bytes, with a copy at task 0 alone. */
    private static GrownSnapshots withPart(int first) {
        GrownSnapshots x = new GrownSnapshots();
        Calls.setShorts(x, 0, first);
        x.mark(0);
        return x;
    }

    // "BAD: it is not there".
    private static void promise15NotThere() {
        due.is("15 nothing there", new GrownSnapshots().partTold(0, 0), BAD);
        GrownSnapshots x = withPart(1);
        for (int part : NO_PARTS) {
            due.is("15 part " + part, x.partTold(part, 0), BAD);
        }
        x.lose(0, NONE);
        due.is("15 lost, it is there", x.partTold(0, 0), 4);
        x.drop(0);
        for (int what = 0; what < 5; what++) {
            due.is("15 freed, " + what, x.partTold(0, what), BAD);
        }
    }

    // "Of a PART: 0 .., 4 ..": no others.
    private static void promise15What() {
        GrownSnapshots x = withPart(1);
        due.is("15 what 4", x.partTold(0, 4), 1);
        for (int what : new int[] {-1, 5, LEAST, MOST}) {
            due.is("15 what " + what, x.partTold(0, what), BAD);
        }
    }

    // "0 how many bytes it was made of": 1 to 32, lost or not.
    private static void promise15BytesItWasMadeOf() {
        GrownSnapshots x = new GrownSnapshots();
        x.extend(0, 33, 7, 0);
        x.mark(0);
        due.is("15 the most", x.partTold(0, 0), 32);
        due.is("15 the fewest", x.partTold(1, 0), 1);
        x.lose(0, NONE);
        due.is("15 of a lost one", x.partTold(0, 0), 32);
    }

    // "h is 1 at first; with each byte b h becomes (31 h + b) modulo 61".
    private static void promise15Digest() {
        for (int b = 0; b < 256; b++) {
            GrownSnapshots x = new GrownSnapshots();
            x.insert(0, 0, 1, b);
            x.mark(0);
            due.is("15 digest of " + b, x.partTold(0, 1), (31 + b) % 61);
        }
        GrownSnapshots y = new GrownSnapshots();
        y.extend(0, 32, 255, 0);
        y.mark(0);
        int digest = 1;
        for (int i = 0; i < 32; i++) {
            digest = (31 * digest + 255) % 61;
        }
        due.is("15 digest of the most and greatest", y.partTold(0, 1), digest);
        // 31 * (31 * 1 + 1) + 2 is 994, 16 * 61 and 18; 31 * (31 * 1 + 2) + 1 is 16 * 61 and 48.
        GrownSnapshots z = new GrownSnapshots();
        z.insert(0, 0, 2, 0x0102L);
        z.insert(1, 0, 2, 0x0201L);
        z.mark(0);
        due.is("15 digest of 1 2", z.partTold(0, 1), 18);
        due.is("15 digest of 2 1", z.partTold(1, 1), 48);
    }

    // "the DIGEST that they had when it was made".
    private static void promise15DigestWhenItWasMade() {
        GrownSnapshots x = withPart(0);
        due.is("15 made", x.partTold(0, 1), 42);
        x.alter(0, NONE, 0, 1);
        due.is("15 altered", x.partTold(0, 1), 42);
        x.lose(0, NONE);
        due.is("15 lost", x.partTold(0, 1), 42);
    }

    // "2 in how many KEPT MARKS' LISTS it is (each once)".
    private static void promise15KeptMarksEachOnce() {
        GrownSnapshots x = new GrownSnapshots();
        Calls.setShorts(x, 0, 1, 1, 1);
        x.mark(0);
        due.is("15 often in one list", x.partTold(0, 2), 1);
        Calls.setShorts(x, 1, 1);
        x.mark(0);
        due.is("15 in two lists of a mark", x.partTold(0, 2), 2);
        Calls.empty(x, 0);
        x.mark(0);
        due.is("15 in the second list", x.partTold(0, 2), 3);
        Calls.setShorts(x, 1, 2);
        x.mark(0);
        due.is("15 in no list", x.partTold(0, 2), 3);
        x.drop(0);
        due.is("15 held alone", x.partTold(0, 2), 2);
        x.drop(1);
        x.drop(2);
        due.is("15 in none", x.partTold(0, 2), BAD);
        due.is("15 the other", x.partTold(1, 2), 1);
    }

    // "BROKEN when it is LOST (has no bytes any more), or its bytes have another DIGEST now".
    private static void promise15Broken() {
        GrownSnapshots x = withPart(1);
        due.is("15 as it was made", x.partTold(0, 3), 0);
        x.alter(0, NONE, 3, 1);
        due.is("15 another digest", x.partTold(0, 3), 1);
        x.alter(0, NONE, 3, 1);
        due.is("15 itself again", x.partTold(0, 3), 0);
        x.alter(0, NONE, 0, 1 ^ 62);
        due.is("15 other bytes, the same digest", x.partTold(0, 3), 0);
        x.alter(0, NONE, 0, 0);
        due.is("15 no bits turned", x.partTold(0, 3), 0);
        x.alter(0, 0, 0, 1);
        due.is("15 a broken copy", x.partTold(0, 3), 0);
        x.lose(0, 0);
        due.is("15 no copy", x.partTold(0, 3), 0);
        x.lose(0, NONE);
        due.is("15 lost", x.partTold(0, 3), 1);
    }

    // "4 how many TASKS have a COPY of it": broken ones, too.
    private static void promise15CopiesAtTasks() {
        GrownSnapshots x = new GrownSnapshots();
        x.rescale(4);
        for (int task = 0; task < 4; task++) {
            Calls.setShorts(x, task, 1, 1);
        }
        x.mark(0);
        due.is("15 all four", x.partTold(0, 4), 4);
        x.alter(0, 3, 0, 1);
        due.is("15 a broken one", x.partTold(0, 4), 4);
        for (int task = 0; task < 4; task++) {
            x.lose(0, task);
            due.is("15 one less", x.partTold(0, 4), 3 - task);
        }
    }

    // "BAD": there is no such PART.
    private static void promise16NotThere() {
        due.is("16 nothing there", new GrownSnapshots().partByte(0, NONE, 0), BAD);
        GrownSnapshots x = withPart(1);
        for (int part : NO_PARTS) {
            due.is("16 part " + part, x.partByte(part, NONE, 0), BAD);
            due.is("16 copy of part " + part, x.partByte(part, 0, 0), BAD);
        }
        x.drop(0);
        due.is("16 freed", x.partByte(0, NONE, 0), BAD);
        due.is("16 a freed one's copy", x.partByte(0, 0, 0), BAD);
    }

    // "Byte i": of 1 to 32.
    private static void promise16FirstAndLast() {
        GrownSnapshots x = new GrownSnapshots();
        x.insert(0, 0, 1, 10L);
        x.extend(0, 31, 7, 0);
        x.insert(0, 31, 1, 5L);
        x.remove(0, 32, 1);
        x.mark(0);
        due.is("16 of 32", x.partTold(0, 0), 32);
        for (int task = NONE; task <= 0; task++) {
            due.is("16 the first", x.partByte(0, task, 0), 10);
            due.is("16 the last", x.partByte(0, task, 31), 5);
            for (int i : new int[] {-1, 32, 33, LEAST, MOST}) {
                due.is("16 byte " + i, x.partByte(0, task, i), BAD);
            }
        }
        GrownSnapshots y = new GrownSnapshots();
        y.insert(0, 0, 1, 255L);
        y.mark(0);
        due.is("16 the only one", y.partByte(0, NONE, 0), 255);
        due.is("16 behind it", y.partByte(0, NONE, 1), BAD);
    }

    // "(task NONE: THE STORE)": no other number that is no task.
    private static void promise16NoSuchTask() {
        GrownSnapshots x = withPart(1);
        for (int task : NO_TASKS) {
            due.is("16 task " + task, x.partByte(0, task, 0), BAD);
        }
        due.is("16 the store", x.partByte(0, NONE, 0), 1);
    }

    // "BAD: also it is LOST".
    private static void promise16Lost() {
        GrownSnapshots x = withPart(1);
        x.lose(0, NONE);
        due.is("16 lost", x.partByte(0, NONE, 0), BAD);
        due.is("16 its copy is not", x.partByte(0, 0, 0), 1);
    }

    // "there is no COPY".
    private static void promise16NoCopy() {
        GrownSnapshots x = withPart(1);
        due.is("16 task 1 has none", x.partByte(0, 1, 0), BAD);
        x.lose(0, 0);
        due.is("16 task 0 no more", x.partByte(0, 0, 0), BAD);
        due.is("16 the part is there", x.partByte(0, NONE, 0), 1);
    }

    // "bytes of its own".
    private static void promise16ItsOwnBytes() {
        GrownSnapshots x = withPart(1);
        Calls.setShorts(x, 1, 1);
        x.mark(0);
        x.alter(0, NONE, 0, 2);
        x.alter(0, 0, 0, 4);
        x.alter(0, 1, 0, 8);
        due.is("16 the store's", x.partByte(0, NONE, 0), 3);
        due.is("16 task 0's", x.partByte(0, 0, 0), 5);
        due.is("16 task 1's", x.partByte(0, 1, 0), 9);
        x.insert(0, 0, 1, 200L);
        due.is("16 whatever the state is", x.partByte(0, 0, 0), 5);
    }

    // "This byte becomes itself with another one's bits (0 to 255) turned: what it is then".
    private static void promise17BitsTurned() {
        GrownSnapshots x = withPart(0xA5);
        due.is("17 none", x.alter(0, NONE, 0, 0), 0xA5);
        due.is("17 all", x.alter(0, NONE, 0, 255), 0x5A);
        due.is("17 the highest", x.alter(0, NONE, 0, 128), 0xDA);
        due.is("17 the lowest", x.alter(0, NONE, 0, 1), 0xDB);
        due.is("17 turned back", x.alter(0, NONE, 0, 0xDB ^ 0xA5), 0xA5);
        due.is("17 it is so", x.partByte(0, NONE, 0), 0xA5);
        due.is("17 a copy's", x.alter(0, 0, 3, 255), 255);
    }

    // "bits (0 to 255)".
    private static void promise17BitsTooMany() {
        GrownSnapshots x = withPart(1);
        for (int bits : new int[] {-1, 256, 257, LEAST, MOST}) {
            due.is("17 bits " + bits, x.alter(0, NONE, 0, bits), BAD);
            due.is("17 bits " + bits + " of a copy", x.alter(0, 0, 0, bits), BAD);
        }
        due.is("17 the store's stays", x.partByte(0, NONE, 0), 1);
        due.is("17 the copy's stays", x.partByte(0, 0, 0), 1);
    }

    // "BAD likewise".
    private static void promise17BadLikewise() {
        due.is("17 nothing there", new GrownSnapshots().alter(0, NONE, 0, 1), BAD);
        GrownSnapshots x = withPart(1);
        for (int part : NO_PARTS) {
            due.is("17 part " + part, x.alter(part, NONE, 0, 1), BAD);
            due.is("17 copy of part " + part, x.alter(part, 0, 0, 1), BAD);
        }
        for (int task : NO_TASKS) {
            due.is("17 task " + task, x.alter(0, task, 0, 1), BAD);
        }
        for (int i : new int[] {-1, 4, 32, LEAST, MOST}) {
            due.is("17 byte " + i, x.alter(0, NONE, i, 1), BAD);
            due.is("17 byte " + i + " of a copy", x.alter(0, 0, i, 1), BAD);
        }
        due.is("17 the last byte", x.alter(0, NONE, 3, 1), 1);
        due.is("17 no copy", x.alter(0, 1, 0, 1), BAD);
        x.lose(0, NONE);
        due.is("17 lost", x.alter(0, NONE, 0, 1), BAD);
        due.is("17 a lost one's copy", x.alter(0, 0, 0, 1), 0);
        x.drop(0);
        due.is("17 freed", x.alter(0, NONE, 0, 1), BAD);
        due.is("17 a freed one's copy", x.alter(0, 0, 0, 1), BAD);
    }

    // "This byte": no other, of no other part or place.
    private static void promise17OnlyThisByte() {
        GrownSnapshots x = new GrownSnapshots();
        Calls.setShorts(x, 0, 1, 2);
        Calls.setShorts(x, 1, 1, 2);
        x.mark(0);
        x.alter(0, 1, 3, 255);
        for (int part = 0; part < 2; part++) {
            for (int task = NONE; task < 2; task++) {
                for (int i = 0; i < 4; i++) {
                    int made = i == 0 ? part + 1 : 0;
                    int want = part == 0 && task == 1 && i == 3 ? 255 : made;
                    due.is("17 byte " + i + " of " + part, x.partByte(part, task, i), want);
                }
            }
        }
        due.is("17 states stay", Calls.bytes(x, 1), "1 0 0 0 2 0 0 0");
    }

    // "BAD": there is no such PART.
    private static void promise18NotThere() {
        due.is("18 nothing there", new GrownSnapshots().lose(0, NONE), BAD);
        GrownSnapshots x = withPart(1);
        for (int part : NO_PARTS) {
            due.is("18 part " + part, x.lose(part, NONE), BAD);
            due.is("18 copy of part " + part, x.lose(part, 0), BAD);
        }
        x.drop(0);
        due.is("18 freed", x.lose(0, NONE), BAD);
        due.is("18 a freed one's copy", x.lose(0, 0), BAD);
    }

    // "BAD: also it is that already".
    private static void promise18LostAlready() {
        GrownSnapshots x = withPart(1);
        due.is("18 the store's", x.lose(0, NONE), 1);
        due.is("18 already", x.lose(0, NONE), BAD);
        due.is("18 the copy", x.lose(0, 0), 1);
        due.is("18 already, too", x.lose(0, 0), BAD);
        due.is("18 never had one", x.lose(0, 1), BAD);
        x.mark(0);
        due.is("18 a new one", x.lose(1, NONE), 1);
        due.is("18 the first is lost on", x.lose(0, NONE), BAD);
    }

    // "(it stays there, without bytes)".
    private static void promise18StaysThere() {
        GrownSnapshots x = withPart(1);
        x.lose(0, NONE);
        due.is("18 one part", x.told(3), 1);
        due.is("18 its bytes as made", x.told(4), 4);
        due.is("18 in the list", x.list(0, 0, 0), 0);
        due.is("18 in a kept mark", x.partTold(0, 2), 1);
        due.is("18 its copy", x.partTold(0, 4), 1);
        due.is("18 no bytes", x.partByte(0, NONE, 0), BAD);
        x.back(0);
        due.is("18 not when it is read from a copy", x.partByte(0, NONE, 0), BAD);
    }

    // "a TASK's COPY is none any more".
    private static void promise18CopyNoMore() {
        GrownSnapshots x = withPart(1);
        Calls.setShorts(x, 1, 1);
        x.mark(0);
        due.is("18 task 1's", x.lose(0, 1), 1);
        due.is("18 one is left", x.told(7), 1);
        due.is("18 task 0's", x.partByte(0, 0, 0), 1);
        due.is("18 the part's bytes stay", x.partByte(0, NONE, 0), 1);
        x.alter(0, 0, 0, 128);
        due.is("18 a broken one", x.lose(0, 0), 1);
        due.is("18 none is left", x.told(7), 0);
    }

    // "BAD: there is no such thing": a TASK.
    private static void promise18NoSuchTask() {
        GrownSnapshots x = withPart(1);
        for (int task : NO_TASKS) {
            due.is("18 task " + task, x.lose(0, task), BAD);
        }
        due.is("18 the store has it", x.partByte(0, NONE, 0), 1);
        due.is("18 the task has it", x.partByte(0, 0, 0), 1);
    }

    // "0 TASKS, .., 8 bytes of all STATES. BAD".
    private static void promise19What() {
        GrownSnapshots x = new GrownSnapshots();
        due.is("19 what 0", x.told(0), 2);
        due.is("19 what 8", x.told(8), 0);
        for (int what : new int[] {-1, -2, 9, LEAST, MOST}) {
            due.is("19 what " + what, x.told(what), BAD);
        }
    }

    // "0 TASKS": 1 to 4.
    private static void promise19Tasks() {
        GrownSnapshots x = new GrownSnapshots();
        for (int tasks = 1; tasks <= 4; tasks++) {
            x.rescale(tasks);
            due.is("19 tasks", x.told(0), tasks);
        }
        x.rescale(5);
        due.is("19 refused", x.told(0), 4);
    }

    // "1 MARKS that are KEPT, 2 HELD": 0 to 12.
    private static void promise19KeptAndHeld() {
        GrownSnapshots x = new GrownSnapshots();
        for (int i = 1; i <= 12; i++) {
            x.mark(0);
            due.is("19 kept", x.told(1), i);
            due.is("19 held", x.told(2), i);
        }
        x.mark(0);
        due.is("19 refused", x.told(1), 12);
        for (int i = 0; i < 11; i++) {
            x.drop(i);
            due.is("19 kept still", x.told(1), 11 - i);
            due.is("19 held still", x.told(2), 12);
        }
        x.drop(11);
        due.is("19 none kept", x.told(1), 0);
        due.is("19 none held", x.told(2), 0);
    }

    // "3 PARTS, 4 bytes of all PARTS as they were made".
    private static void promise19PartsAndTheirBytes() {
        GrownSnapshots x = withPart(1);
        x.extend(0, 2, 9, 0);
        x.mark(0);
        due.is("19 two parts", x.told(3), 2);
        due.is("19 six bytes", x.told(4), 6);
        x.lose(1, NONE);
        due.is("19 lost, too", x.told(3), 2);
        due.is("19 their bytes, too", x.told(4), 6);
        x.drop(1);
        due.is("19 not freed ones", x.told(3), 1);
        due.is("19 nor their bytes", x.told(4), 4);
        x.drop(0);
        due.is("19 none", x.told(3), 0);
        due.is("19 no bytes", x.told(4), 0);
    }

    // "5 the number that the next MARK has".
    private static void promise19NextMark() {
        GrownSnapshots x = new GrownSnapshots();
        for (int i = 0; i < 15; i++) {
            due.is("19 the next", x.told(5), i);
            x.mark(0);
            x.drop(i);
        }
        x.mark(7);
        due.is("19 refused", x.told(5), 15);
        due.is("19 it has it", x.mark(0), 15);
    }

    // "6 BROKEN PARTS": in THE STORE, not copies.
    private static void promise19BrokenParts() {
        GrownSnapshots x = new GrownSnapshots();
        Calls.setShorts(x, 0, 1, 2, 3);
        x.mark(0);
        x.alter(0, 0, 0, 128);
        x.lose(1, 0);
        due.is("19 not copies", x.told(6), 0);
        x.alter(0, NONE, 0, 128);
        due.is("19 an altered one", x.told(6), 1);
        x.lose(1, NONE);
        due.is("19 a lost one", x.told(6), 2);
        x.alter(2, NONE, 0, 3 ^ 64);
        due.is("19 not one with its digest", x.told(6), 2);
        x.alter(0, NONE, 0, 128);
        due.is("19 not one that is itself again", x.told(6), 1);
        x.drop(0);
        due.is("19 not one that is freed", x.told(6), 0);
    }

    // "7 COPIES": of all tasks, broken ones, too.
    private static void promise19Copies() {
        GrownSnapshots x = new GrownSnapshots();
        x.rescale(4);
        for (int task = 0; task < 4; task++) {
            Calls.setShorts(x, task, 1, 2, 1);
        }
        x.mark(0);
        due.is("19 two each", x.told(7), 8);
        x.alter(1, 3, 0, 128);
        due.is("19 a broken one", x.told(7), 8);
        x.lose(1, NONE);
        due.is("19 of a lost one", x.told(7), 8);
        x.lose(1, 3);
        due.is("19 one less", x.told(7), 7);
        x.rescale(3);
        due.is("19 a task less", x.told(7), 6);
        x.drop(0);
        due.is("19 none of freed ones", x.told(7), 0);
    }

    // "8 bytes of all STATES": 0 to 1200, of the tasks that there are.
    private static void promise19BytesOfStates() {
        GrownSnapshots x = new GrownSnapshots();
        x.rescale(4);
        for (int task = 0; task < 4; task++) {
            x.extend(task, 300, 1, 0);
            due.is("19 bytes", x.told(8), 300 * (task + 1));
        }
        x.insert(0, 0, 1, 1L);
        due.is("19 refused", x.told(8), 1200);
        x.remove(3, 0, 300);
        due.is("19 less", x.told(8), 900);
        x.rescale(3);
        due.is("19 shared out", x.told(8), 900);
    }
}
