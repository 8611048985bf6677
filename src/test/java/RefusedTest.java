import java.util.function.Supplier;
import java.util.function.ToIntFunction;

/**
 * "Answers below -1 are refusals, the first that is so: BAD ..; FULL ..": each call with each
 * argument that is too small, too large or names nothing. "What is refused changes nothing": all
 * that can be asked is the same before and behind. Labels begin with the promise's number.
 */
public final class RefusedTest {
    private static final int NONE = Calls.NONE;
    private static final int BAD = Calls.BAD;
    private static final int FULL = Calls.FULL;
    private static final int LEAST = Calls.LEAST;
    private static final int MOST = Calls.MOST;
    private static final int[] FAR = {LEAST, LEAST + 1, -301, -3, MOST - 1, MOST};
    private static final Due due = new Due();

    private final Supplier<GrownSnapshots> maker;
    private final String before;

    private RefusedTest(Supplier<GrownSnapshots> maker) {
        this.maker = maker;
        before = Picture.of(maker);
    }

    public static void main(String[] args) {
        RefusedTest mixed = new RefusedTest(RefusedTest::mixed);
        mixed.tasks();
        mixed.states();
        mixed.marks();
        mixed.parts();
        mixed.answersThatAreNoRefusals();
        new RefusedTest(RefusedTest::fullStates).fullStatesRefuse();
        new RefusedTest(RefusedTest::manyParts).markIsFull("121 parts");
        new RefusedTest(RefusedTest::manyBytes).markIsFull("2401 bytes");
        new RefusedTest(RefusedTest::manyHeld).markIsFull("a thirteenth mark");
        new RefusedTest(RefusedTest::nothingUsable).nothingToGoBackTo();
        new RefusedTest(GrownSnapshots::new).nothingMade();
        due.end();
    }

    private void unchanging(String call, int want, ToIntFunction<GrownSnapshots> asked) {
        due.is(call, asked.applyAsInt(maker.get()), want);
        String behind = Picture.of(() -> {
            GrownSnapshots x = maker.get();
            asked.applyAsInt(x);
            return x;
        });
        due.is(call + " changes nothing", behind.equals(before), true);
    }

    /**
     * Three tasks. Mark 0 is gone, 1 is held alone, 2 and 3 are kept, 4 is the next. Part 0 is
     * freed, 1 altered in the store, 2 sound, 3 lost, 4 sound, 5 not made yet; task 0's copy of 2
     * is altered, that of 4 lost.
     */
    private static GrownSnapshots mixed() {
        GrownSnapshots x = new GrownSnapshots();
        x.mark(1);
        x.rescale(3);
        Calls.setShorts(x, 0, 9, 1, 2);
        Calls.setShorts(x, 1, 3);
        x.mark(1);
        Calls.setShorts(x, 0, 1, 2, 4);
        x.mark(0);
        Calls.setShorts(x, 2, 3, 1);
        x.mark(1);
        x.drop(0);
        x.drop(1);
        x.alter(1, NONE, 0, 128);
        x.alter(2, 0, 1, 7);
        x.lose(3, NONE);
        x.lose(4, 0);
        x.insert(1, 0, 3, 0x070605L);
        return x;
    }

    private static GrownSnapshots fullStates() {
        GrownSnapshots x = new GrownSnapshots();
        x.rescale(4);
        x.extend(0, 32, 7, 0);
        x.mark(0);
        x.remove(0, 0, 32);
        x.extend(0, 300, 1, 3);
        x.extend(1, 300, 2, 5);
        x.extend(3, 293, 3, 7);
        return x;
    }

    /** What is marked is of no use for what is full: parts found and copies altered on the way. */
    private static GrownSnapshots manyParts() {
        GrownSnapshots x = new GrownSnapshots();
        Calls.setShorts(x, 0, 120, 0, 1);
        x.mark(0);
        x.alter(1, 0, 0, 128);
        x.lose(2, 0);
        x.remove(0, 0, 12);
        for (int i = 0; i < 75; i++) {
            x.insert(0, 4 * i, 4, (long) i << 24);
        }
        for (int i = 75; i < 120; i++) {
            x.insert(1, 4 * (i - 75), 4, (long) i << 24);
        }
        return x;
    }

    private static GrownSnapshots manyBytes() {
        GrownSnapshots x = Calls.withLongs(75);
        x.mark(0);
        x.alter(72, 0, 0, 1);
        x.lose(73, 0);
        x.extend(3, 1, 9, 0);
        return x;
    }

    private static GrownSnapshots manyHeld() {
        GrownSnapshots x = new GrownSnapshots();
        for (int i = 0; i < 12; i++) {
            Calls.setShorts(x, i % 2, i, i + 1);
            x.mark(i == 4 ? 1 : 0);
        }
        x.drop(6);
        x.drop(2);
        Calls.setShorts(x, 0, 99);
        return x;
    }

    private static GrownSnapshots nothingUsable() {
        GrownSnapshots x = new GrownSnapshots();
        Calls.setShorts(x, 0, 1, 2);
        x.mark(0);
        Calls.setShorts(x, 1, 3);
        x.mark(0);
        x.lose(0, 0);
        x.alter(1, 0, 0, 128);
        x.alter(1, NONE, 0, 128);
        x.rescale(4);
        return x;
    }

    private void tasks() {
        for (int task : new int[] {-1, -2, 3, 4, LEAST, MOST}) {
            unchanging("2 insert task " + task, BAD, x -> x.insert(task, 0, 1, 5L));
            unchanging("3 remove task " + task, BAD, x -> x.remove(task, 0, 0));
            unchanging("4 extend task " + task, BAD, x -> x.extend(task, 1, 5, 5));
            unchanging("5 state task " + task, BAD, x -> x.state(task, 0));
            unchanging("6 chunk task " + task, BAD, x -> x.chunk(task, NONE));
            unchanging("13 list task " + task, BAD, x -> x.list(2, task, 0));
            if (task != NONE) {
                unchanging("16 partByte task " + task, BAD, x -> x.partByte(2, task, 0));
                unchanging("17 alter task " + task, BAD, x -> x.alter(2, task, 0, 1));
                unchanging("18 lose task " + task, BAD, x -> x.lose(2, task));
            }
        }
    }

    private void states() {
        for (int far : FAR) {
            unchanging("2 insert at " + far, BAD, x -> x.insert(1, far, 1, 5L));
            unchanging("2 insert n " + far, BAD, x -> x.insert(1, 0, far, 5L));
            unchanging("3 remove at " + far, BAD, x -> x.remove(1, far, 1));
            unchanging("3 remove n " + far, BAD, x -> x.remove(1, 1, far));
            unchanging("3 remove both " + far, BAD, x -> x.remove(1, far, far));
            unchanging("4 extend n " + far, BAD, x -> x.extend(1, far, 5, 5));
            unchanging("5 state i " + far, BAD, x -> x.state(1, far));
            unchanging("6 chunk i " + far, BAD, x -> x.chunk(1, far));
            unchanging("7 rescale " + far, BAD, x -> x.rescale(far));
        }
        unchanging("2 insert n -1", BAD, x -> x.insert(1, 0, -1, 5L));
        unchanging("2 insert n 9", BAD, x -> x.insert(1, 0, 9, 5L));
        unchanging("2 insert at -1", BAD, x -> x.insert(1, -1, 1, 5L));
        unchanging("2 insert at above its size", BAD,
            x -> x.insert(1, Calls.size(x, 1) + 1, 1, 5L));
        unchanging("3 remove n -1", BAD, x -> x.remove(1, 1, -1));
        unchanging("3 remove at -1", BAD, x -> x.remove(1, -1, 1));
        unchanging("3 remove one too many", BAD, x -> x.remove(1, 1, Calls.size(x, 1)));
        unchanging("3 remove none from behind the end", BAD,
            x -> x.remove(1, Calls.size(x, 1) + 1, 0));
        unchanging("4 extend n -1", BAD, x -> x.extend(1, -1, 5, 5));
        unchanging("4 extend n 301", BAD, x -> x.extend(1, 301, 5, 5));
        unchanging("5 state i -1", BAD, x -> x.state(1, -1));
        unchanging("5 state i at its size", BAD, x -> x.state(1, Calls.size(x, 1)));
        unchanging("6 chunk i -2", BAD, x -> x.chunk(1, -2));
        unchanging("6 chunk i behind the last", BAD, x -> x.chunk(1, x.chunk(1, NONE)));
        unchanging("7 rescale 0", BAD, x -> x.rescale(0));
        unchanging("7 rescale -1", BAD, x -> x.rescale(-1));
        unchanging("7 rescale 5", BAD, x -> x.rescale(5));
    }

    private void marks() {
        for (int whole : new int[] {-1, -2, 2, LEAST, MOST}) {
            unchanging("8 mark " + whole, BAD, x -> x.mark(whole));
        }
        for (int mark : new int[] {0, 1, 4, -1, LEAST, MOST}) {
            unchanging("9 drop " + mark, BAD, x -> x.drop(mark));
            unchanging("11 usable " + mark, BAD, x -> x.usable(mark));
            unchanging("13 list " + mark, BAD, x -> x.list(mark, 0, 0));
            unchanging("14 same " + mark, 0, x -> x.same(mark, 2) ? 1 : 0);
            unchanging("14 same as " + mark, 0, x -> x.same(2, mark) ? 1 : 0);
            if (mark != 1) {
                unchanging("12 markTold " + mark, BAD, x -> x.markTold(mark, 0));
            }
            if (mark != 0 && mark != 1) {
                unchanging("10 back " + mark, BAD, x -> x.back(mark));
            }
        }
        for (int what : new int[] {-1, -2, 7, LEAST, MOST}) {
            unchanging("12 markTold what " + what, BAD, x -> x.markTold(2, what));
        }
        for (int i : new int[] {-1, -2, LEAST}) {
            unchanging("13 list i " + i, BAD, x -> x.list(2, 0, i));
        }
    }

    private void parts() {
        for (int part : new int[] {-1, 0, 5, 119, 120, LEAST, MOST}) {
            unchanging("15 partTold " + part, BAD, x -> x.partTold(part, 0));
            unchanging("16 partByte " + part, BAD, x -> x.partByte(part, NONE, 0));
            unchanging("16 partByte of a copy " + part, BAD, x -> x.partByte(part, 0, 0));
            unchanging("17 alter " + part, BAD, x -> x.alter(part, NONE, 0, 1));
            unchanging("17 alter of a copy " + part, BAD, x -> x.alter(part, 0, 0, 1));
            unchanging("18 lose " + part, BAD, x -> x.lose(part, NONE));
            unchanging("18 lose of a copy " + part, BAD, x -> x.lose(part, 0));
        }
        for (int what : new int[] {-1, -2, 5, LEAST, MOST}) {
            unchanging("15 partTold what " + what, BAD, x -> x.partTold(1, what));
        }
        for (int i : new int[] {-1, 4, 32, LEAST, MOST}) {
            unchanging("16 partByte i " + i, BAD, x -> x.partByte(1, NONE, i));
            unchanging("17 alter i " + i, BAD, x -> x.alter(1, NONE, i, 1));
            unchanging("17 alter i of a copy " + i, BAD, x -> x.alter(1, 0, i, 1));
        }
        for (int bits : new int[] {-1, 256, LEAST, MOST}) {
            unchanging("17 alter bits " + bits, BAD, x -> x.alter(1, NONE, 0, bits));
            unchanging("17 alter bits of a copy " + bits, BAD, x -> x.alter(1, 0, 0, bits));
        }
        unchanging("16 partByte of a lost one", BAD, x -> x.partByte(3, NONE, 0));
        unchanging("17 alter of a lost one", BAD, x -> x.alter(3, NONE, 0, 1));
        unchanging("18 lose of a lost one", BAD, x -> x.lose(3, NONE));
        for (int task = 0; task < 3; task++) {
            int without = task;
            unchanging("16 partByte of no copy", BAD, x -> x.partByte(4, without, 0));
            unchanging("17 alter of no copy", BAD, x -> x.alter(4, without, 0, 1));
            unchanging("18 lose of no copy", BAD, x -> x.lose(4, without));
        }
        for (int what : new int[] {-1, -2, 9, LEAST, MOST}) {
            unchanging("19 told " + what, BAD, x -> x.told(what));
        }
    }

    /** Questions change nothing either, nor do calls for no bytes and no bits. */
    private void answersThatAreNoRefusals() {
        unchanging("2 insert of nothing", 7, x -> x.insert(1, 0, 0, 5L));
        unchanging("3 remove of nothing", 7, x -> x.remove(1, 2, 0));
        unchanging("4 extend by nothing", 7, x -> x.extend(1, 0, 5, 5));
        unchanging("6 chunk", 1, x -> x.chunk(1, NONE));
        unchanging("11 usable", 1, x -> x.usable(2));
        unchanging("13 list of not so many", NONE, x -> x.list(2, 0, MOST));
        unchanging("17 alter of no bits", 7, x -> x.alter(2, 0, 1, 0));
    }

    private void fullStatesRefuse() {
        unchanging("2 insert of one above 300", FULL, x -> x.insert(0, 0, 1, 5L));
        unchanging("2 insert of eight above 300", FULL, x -> x.insert(1, 300, 8, 5L));
        unchanging("2 insert of 8 into 293", FULL, x -> x.insert(3, 293, 8, 5L));
        unchanging("2 insert at 301, BAD first", BAD, x -> x.insert(0, 301, 1, 5L));
        unchanging("2 insert n 9, BAD first", BAD, x -> x.insert(0, 0, 9, 5L));
        unchanging("4 extend by one above 300", FULL, x -> x.extend(0, 1, 5, 5));
        unchanging("4 extend by 8 behind 293", FULL, x -> x.extend(3, 8, 5, 5));
        unchanging("4 extend by 300", FULL, x -> x.extend(1, 300, 5, 5));
        unchanging("4 extend by 301, BAD first", BAD, x -> x.extend(1, 301, 5, 5));
        unchanging("7 rescale to one", FULL, x -> x.rescale(1));
        unchanging("7 rescale to two", FULL, x -> x.rescale(2));
        unchanging("7 rescale to none, BAD first", BAD, x -> x.rescale(0));
        unchanging("7 rescale to five, BAD first", BAD, x -> x.rescale(5));
    }

    private void markIsFull(String why) {
        unchanging("8 mark, grown, " + why, FULL, x -> x.mark(0));
        unchanging("8 mark, whole, " + why, FULL, x -> x.mark(1));
        unchanging("8 mark twice, " + why, FULL, x -> Math.max(x.mark(0), x.mark(1)));
        unchanging("8 mark 2, BAD first, " + why, BAD, x -> x.mark(2));
    }

    private void nothingToGoBackTo() {
        unchanging("10 back to the first", NONE, x -> x.back(0));
        unchanging("10 back to the last", NONE, x -> x.back(1));
        unchanging("10 back to the next", BAD, x -> x.back(2));
        unchanging("11 usable, the first", 0, x -> x.usable(0));
        unchanging("11 usable, the last", 0, x -> x.usable(1));
    }

    private void nothingMade() {
        unchanging("9 drop of none", BAD, x -> x.drop(0));
        unchanging("10 back to none", BAD, x -> x.back(0));
        unchanging("11 usable of none", BAD, x -> x.usable(0));
        unchanging("12 markTold of none", BAD, x -> x.markTold(0, 0));
        unchanging("13 list of none", BAD, x -> x.list(0, 0, 0));
        unchanging("14 same of none", 0, x -> x.same(0, 0) ? 1 : 0);
        unchanging("15 partTold of none", BAD, x -> x.partTold(0, 0));
        unchanging("16 partByte of none", BAD, x -> x.partByte(0, NONE, 0));
        unchanging("17 alter of none", BAD, x -> x.alter(0, NONE, 0, 1));
        unchanging("18 lose of none", BAD, x -> x.lose(0, NONE));
        unchanging("3 remove of none", BAD, x -> x.remove(0, 0, 1));
        unchanging("5 state of none", BAD, x -> x.state(0, 0));
        unchanging("6 chunk of none", BAD, x -> x.chunk(0, 0));
    }
}
