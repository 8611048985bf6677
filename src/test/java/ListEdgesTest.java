/**
 * The edges that promises 12 to 14 name, with what the terms say of what a mark tells: one test
 * for each sentence, which stands above it, and each answer is labelled with the promise's
 * number.
 */
public final class ListEdgesTest {
    private static final int NONE = Calls.NONE;
    private static final int BAD = Calls.BAD;
    private static final int LEAST = Calls.LEAST;
    private static final int MOST = Calls.MOST;
    private static final Due due = new Due();

    public static void main(String[] args) {
        promise12NotHeld();
        promise12What();
        promise12Kept();
        promise12Base();
        promise12Tasks();
        promise12PartsInItsLists();
        promise12WholeTellsAll();
        promise12AtTheBeginning();
        promise12AtTheEnd();
        promise12LeftOfBoth();
        promise12OneAsLongAsTheOther();
        promise12OtherTasks();
        promise12EachTaskByItself();
        promise12BytesAsTheyWereMarked();
        promise12NewBytes();
        promise12EmptyStates();
        promise12StaysAsItWas();
        promise13NoneThatIsKept();
        promise13NotSoMany();
        promise13BelowTheFirst();
        promise13ItsOwnTasks();
        promise13LongestList();
        promise14NoneSuch();
        promise14AsManyTasks();
        promise14AlikeLists();
        promise14ListsNotBytes();
        promise14LongestLists();
        due.end();
    }

    // "BAD: also not HELD".
    private static void promise12NotHeld() {
        GrownSnapshots x = new GrownSnapshots();
        due.is("12 none made", x.markTold(0, 0), BAD);
        x.mark(0);
        x.mark(0);
        due.is("12 the next", x.markTold(2, 0), BAD);
        due.is("12 -1", x.markTold(-1, 0), BAD);
        due.is("12 -1, as a base", x.markTold(-1, 1), BAD);
        due.is("12 least", x.markTold(LEAST, 0), BAD);
        due.is("12 greatest", x.markTold(MOST, 0), BAD);
        x.drop(0);
        for (int what = 0; what < 7; what++) {
            due.is("12 held alone, " + what, x.markTold(0, what) == BAD, false);
        }
        x.drop(1);
        for (int what = 0; what < 7; what++) {
            due.is("12 not held, " + what, x.markTold(0, what), BAD);
        }
    }

    // "Of a HELD MARK: 0 .., 6 ..": no others.
    private static void promise12What() {
        GrownSnapshots x = Calls.withShorts(1);
        x.mark(0);
        due.is("12 what 6", x.markTold(0, 6), 4);
        due.is("12 what 7", x.markTold(0, 7), BAD);
        due.is("12 what -1", x.markTold(0, -1), BAD);
        due.is("12 what least", x.markTold(0, LEAST), BAD);
        due.is("12 what greatest", x.markTold(0, MOST), BAD);
    }

    // "0 whether it is KEPT (1, 0)".
    private static void promise12Kept() {
        GrownSnapshots x = new GrownSnapshots();
        x.mark(0);
        x.mark(0);
        due.is("12 kept", x.markTold(0, 0), 1);
        x.drop(0);
        due.is("12 held alone", x.markTold(0, 0), 0);
        due.is("12 the other is kept", x.markTold(1, 0), 1);
    }

    // "1 its BASE (NONE: it is WHOLE)": also one that is kept no more.
    private static void promise12Base() {
        GrownSnapshots x = new GrownSnapshots();
        x.mark(0);
        x.mark(0);
        x.mark(1);
        x.mark(0);
        due.is("12 the first", x.markTold(0, 1), NONE);
        due.is("12 upon it", x.markTold(1, 1), 0);
        due.is("12 whole", x.markTold(2, 1), NONE);
        due.is("12 upon the whole one", x.markTold(3, 1), 2);
        x.drop(0);
        x.drop(2);
        due.is("12 the base stays", x.markTold(1, 1), 0);
        due.is("12 that one, too", x.markTold(3, 1), 2);
    }

    // "2 TASKS": as many as there were.
    private static void promise12Tasks() {
        GrownSnapshots x = new GrownSnapshots();
        for (int tasks = 1; tasks <= 4; tasks++) {
            x.rescale(tasks);
            x.mark(0);
        }
        x.rescale(2);
        for (int tasks = 1; tasks <= 4; tasks++) {
            due.is("12 then", x.markTold(tasks - 1, 2), tasks);
        }
    }

    // "3 PARTS in its LISTS": as often as they are in them.
    private static void promise12PartsInItsLists() {
        GrownSnapshots x = new GrownSnapshots();
        x.rescale(4);
        for (int task = 0; task < 4; task++) {
            x.extend(task, 300, 0, 0);
        }
        x.mark(0);
        due.is("12 the most", x.markTold(0, 3), 300);
        due.is("12 all told", x.markTold(0, 4), 300);
        due.is("12 one part", x.told(3), 1);
    }

    // "WHOLE: it tells all LISTS": also what the latest one has.
    private static void promise12WholeTellsAll() {
        GrownSnapshots x = Calls.withShorts(1, 2, 3);
        x.mark(1);
        x.mark(1);
        due.is("12 all", x.markTold(1, 4), 3);
        x.mark(0);
        due.is("12 none", x.markTold(2, 4), 0);
    }

    /** How many parts a mark of the second row tells, grown upon a mark of the first. */
    private static int toldBetween(int[] below, int[] above) {
        GrownSnapshots x = Calls.withShorts(below);
        x.mark(0);
        Calls.setShorts(x, 0, above);
        x.mark(0);
        return x.markTold(1, 4);
    }

    private static int[] row(int... firsts) {
        return firsts;
    }

    // "how many PARTS at the beginning (as many as can be) are those of that LIST".
    private static void promise12AtTheBeginning() {
        due.is("12 all", toldBetween(row(1, 2, 3), row(1, 2, 3)), 0);
        due.is("12 one more", toldBetween(row(1, 2, 3), row(1, 2, 3, 4)), 1);
        due.is("12 one less", toldBetween(row(1, 2, 3), row(1, 2)), 0);
        due.is("12 another last", toldBetween(row(1, 2, 3), row(1, 2, 4)), 1);
        due.is("12 only the first", toldBetween(row(1, 2, 3), row(1, 4, 5)), 2);
        due.is("12 none", toldBetween(row(1, 2, 3), row(4, 5, 6)), 3);
        due.is("12 none at its place", toldBetween(row(1, 2, 3), row(2, 3, 1)), 3);
    }

    // "then how many at the end are (as many as can be ..)".
    private static void promise12AtTheEnd() {
        due.is("12 one more ahead", toldBetween(row(1, 2, 3), row(4, 1, 2, 3)), 1);
        due.is("12 one less ahead", toldBetween(row(1, 2, 3), row(2, 3)), 0);
        due.is("12 another first", toldBetween(row(1, 2, 3), row(4, 2, 3)), 1);
        due.is("12 only the last", toldBetween(row(1, 2, 3), row(4, 5, 3)), 2);
        due.is("12 one between", toldBetween(row(1, 2, 3), row(1, 4, 3)), 1);
        due.is("12 two for one", toldBetween(row(1, 2, 3), row(1, 4, 5, 3)), 2);
        due.is("12 one for two", toldBetween(row(1, 2, 3, 4), row(1, 5, 4)), 1);
        due.is("12 not in the midst", toldBetween(row(1, 2, 3), row(4, 2, 5)), 3);
        due.is("12 the end at the beginning", toldBetween(row(1, 2), row(2, 1)), 2);
    }

    // "of those that are left of both": no part counts at the beginning and at the end.
    private static void promise12LeftOfBoth() {
        due.is("12 none left below", toldBetween(row(1), row(1, 1)), 1);
        due.is("12 none left above", toldBetween(row(1, 1), row(1)), 0);
        due.is("12 two of three below", toldBetween(row(1, 1), row(1, 1, 1)), 1);
        due.is("12 twice as many", toldBetween(row(1, 2), row(1, 2, 1, 2)), 2);
        due.is("12 half as many", toldBetween(row(1, 2, 1, 2), row(1, 2)), 0);
        due.is("12 one left", toldBetween(row(1, 2, 1), row(1, 2, 2, 1)), 1);
        due.is("12 the end before it", toldBetween(row(1, 2, 1, 3), row(1, 3)), 0);
    }

    // A LIST without PARTS below or above.
    private static void promise12OneAsLongAsTheOther() {
        due.is("12 nothing below", toldBetween(row(), row(1, 2)), 2);
        due.is("12 nothing above", toldBetween(row(1, 2), row()), 0);
        due.is("12 nothing at all", toldBetween(row(), row()), 0);
    }

    // "of each TASK that there was then, too ..; of other TASKS all".
    private static void promise12OtherTasks() {
        GrownSnapshots x = Calls.withShorts(1, 2);
        Calls.setShorts(x, 1, 3);
        x.mark(0);
        x.rescale(4);
        Calls.setShorts(x, 0, 1, 2);
        Calls.setShorts(x, 1, 3);
        Calls.setShorts(x, 2, 1, 2);
        Calls.setShorts(x, 3, 3);
        x.mark(0);
        due.is("12 those of more tasks", x.markTold(1, 4), 3);
        due.is("12 none is new", x.markTold(1, 6), 0);
        x.mark(0);
        due.is("12 none when they were", x.markTold(2, 4), 0);
        x.rescale(1);
        Calls.setShorts(x, 0, 1, 2);
        x.mark(0);
        due.is("12 none of fewer tasks", x.markTold(3, 4), 0);
        x.rescale(2);
        Calls.setShorts(x, 0, 1, 2);
        Calls.setShorts(x, 1, 3);
        x.mark(0);
        due.is("12 as it was before the base", x.markTold(4, 4), 1);
    }

    // Of each TASK it is that TASK's own LIST.
    private static void promise12EachTaskByItself() {
        GrownSnapshots x = Calls.withShorts(1, 2);
        Calls.setShorts(x, 1, 3, 4);
        x.mark(0);
        Calls.setShorts(x, 0, 3, 4);
        Calls.setShorts(x, 1, 1, 2);
        x.mark(0);
        due.is("12 the other's lists", x.markTold(1, 4), 4);
        Calls.setShorts(x, 0, 3, 5);
        Calls.setShorts(x, 1, 6, 2);
        x.mark(0);
        due.is("12 one of each", x.markTold(2, 4), 2);
    }

    // "5 bytes of its LISTS as they were MARKED".
    private static void promise12BytesAsTheyWereMarked() {
        GrownSnapshots x = new GrownSnapshots();
        x.rescale(4);
        for (int task = 0; task < 4; task++) {
            x.extend(task, 300, 0, 0);
        }
        x.mark(0);
        due.is("12 the most", x.markTold(0, 5), 1200);
        x.lose(0, NONE);
        due.is("12 lost or not", x.markTold(0, 5), 1200);
        Calls.empty(x, 0);
        due.is("12 whatever the states are", x.markTold(0, 5), 1200);
    }

    // "6 bytes of PARTS that were new by it": each part once.
    private static void promise12NewBytes() {
        GrownSnapshots x = Calls.withShorts(1, 1, 1);
        x.extend(0, 3, 9, 0);
        x.mark(0);
        due.is("12 two parts", x.markTold(0, 6), 7);
        x.mark(1);
        due.is("12 nothing new, whole or not", x.markTold(1, 6), 0);
        x.alter(0, NONE, 0, 128);
        x.mark(0);
        due.is("12 new for a broken one", x.markTold(2, 6), 4);
        x.lose(1, NONE);
        x.mark(0);
        due.is("12 new for a lost one", x.markTold(3, 6), 3);
        Calls.empty(x, 0);
        x.mark(0);
        due.is("12 nothing", x.markTold(4, 6), 0);
    }

    // A MARK of empty states.
    private static void promise12EmptyStates() {
        GrownSnapshots x = new GrownSnapshots();
        x.mark(0);
        int[] want = {1, NONE, 2, 0, 0, 0, 0};
        for (int what = 0; what < want.length; what++) {
            due.is("12 of nothing, " + what, x.markTold(0, what), want[what]);
        }
    }

    // What a mark tells stays when its base is kept no more, its own parts freed and made anew.
    private static void promise12StaysAsItWas() {
        GrownSnapshots x = Calls.withShorts(1, 2);
        x.mark(0);
        Calls.setShorts(x, 0, 1, 3);
        x.mark(0);
        Calls.setShorts(x, 0, 4);
        x.mark(0);
        x.drop(0);
        x.drop(1);
        Calls.setShorts(x, 0, 5, 6, 7);
        x.mark(0);
        int[] want = {0, 0, 2, 2, 1, 8, 4};
        for (int what = 0; what < want.length; what++) {
            due.is("12 held alone, " + what, x.markTold(1, what), want[what]);
        }
    }

    // "of a MARK that is KEPT"; "BAD".
    private static void promise13NoneThatIsKept() {
        GrownSnapshots x = Calls.withShorts(1);
        due.is("13 none made", x.list(0, 0, 0), BAD);
        x.mark(0);
        x.mark(0);
        due.is("13 the next", x.list(2, 0, 0), BAD);
        due.is("13 -1", x.list(-1, 0, 0), BAD);
        due.is("13 least", x.list(LEAST, 0, 0), BAD);
        due.is("13 greatest", x.list(MOST, 0, 0), BAD);
        x.drop(0);
        due.is("13 held alone", x.list(0, 0, 0), BAD);
        due.is("13 held alone, not so many", x.list(0, 0, 9), BAD);
        due.is("13 the other", x.list(1, 0, 0), 0);
        x.drop(1);
        due.is("13 dropped", x.list(1, 0, 0), BAD);
    }

    // "NONE: the LIST has not so many".
    private static void promise13NotSoMany() {
        GrownSnapshots x = Calls.withShorts(1, 2);
        x.mark(0);
        due.is("13 the last", x.list(0, 0, 1), 1);
        due.is("13 behind the last", x.list(0, 0, 2), NONE);
        due.is("13 greatest", x.list(0, 0, MOST), NONE);
        due.is("13 of an empty list", x.list(0, 1, 0), NONE);
        Calls.setShorts(x, 0, 2);
        x.mark(0);
        due.is("13 of a grown one that is shorter", x.list(1, 0, 1), NONE);
    }

    // "a number is not as told": there is none ahead of the first.
    private static void promise13BelowTheFirst() {
        GrownSnapshots x = Calls.withShorts(1);
        x.mark(0);
        due.is("13 the first", x.list(0, 0, 0), 0);
        due.is("13 i -1", x.list(0, 0, -1), BAD);
        due.is("13 i least", x.list(0, 0, LEAST), BAD);
        due.is("13 i -1 of an empty list", x.list(0, 1, -1), BAD);
    }

    // "for each TASK that there was": whether it is there now or not.
    private static void promise13ItsOwnTasks() {
        GrownSnapshots x = new GrownSnapshots();
        for (int tasks = 1; tasks <= 4; tasks++) {
            x.rescale(tasks);
            Calls.setShorts(x, tasks - 1, tasks);
            x.mark(1);
        }
        x.rescale(2);
        for (int tasks = 1; tasks <= 4; tasks++) {
            due.is("13 the last of " + tasks, x.list(tasks - 1, tasks - 1, 0) >= 0, true);
            due.is("13 behind the last of " + tasks, x.list(tasks - 1, tasks, 0), BAD);
            due.is("13 task -1 of " + tasks, x.list(tasks - 1, -1, 0), BAD);
            due.is("13 task least of " + tasks, x.list(tasks - 1, LEAST, 0), BAD);
            due.is("13 task greatest of " + tasks, x.list(tasks - 1, MOST, 0), BAD);
        }
    }

    // 300 bytes may be 75 PARTS.
    private static void promise13LongestList() {
        GrownSnapshots x = new GrownSnapshots();
        for (int i = 0; i < 75; i++) {
            x.insert(1, 4 * i, 4, (long) i << 24);
        }
        x.mark(0);
        due.is("13 the first", x.list(0, 1, 0), 0);
        due.is("13 the last", x.list(0, 1, 74), 74);
        due.is("13 behind it", x.list(0, 1, 75), NONE);
    }

    // "False: also there are none such".
    private static void promise14NoneSuch() {
        GrownSnapshots x = new GrownSnapshots();
        due.is("14 none made", x.same(0, 0), false);
        x.mark(0);
        x.mark(0);
        due.is("14 both", x.same(0, 1), true);
        for (int none : new int[] {-1, 2, LEAST, MOST}) {
            due.is("14 first " + none, x.same(none, 0), false);
            due.is("14 second " + none, x.same(0, none), false);
            due.is("14 twice " + none, x.same(none, none), false);
        }
        x.drop(0);
        due.is("14 held alone, first", x.same(0, 1), false);
        due.is("14 held alone, second", x.same(1, 0), false);
        due.is("14 held alone, twice", x.same(0, 0), false);
        due.is("14 the kept one", x.same(1, 1), true);
    }

    // "as many TASKS": also when those that are more have nothing.
    private static void promise14AsManyTasks() {
        GrownSnapshots x = new GrownSnapshots();
        for (int tasks = 1; tasks <= 4; tasks++) {
            x.rescale(tasks);
            x.mark(0);
            x.mark(1);
        }
        for (int a = 0; a < 8; a++) {
            for (int b = 0; b < 8; b++) {
                due.is("14 tasks of " + a + " and " + b, x.same(a, b), a / 2 == b / 2);
            }
        }
    }

    private static boolean sameOf(int[] one, int[] other) {
        GrownSnapshots x = Calls.withShorts(one);
        x.mark(0);
        Calls.setShorts(x, 0, other);
        x.mark(0);
        due.is("14 either way", x.same(1, 0), x.same(0, 1));
        return x.same(0, 1);
    }

    // "and alike LISTS".
    private static void promise14AlikeLists() {
        due.is("14 alike", sameOf(row(1, 2), row(1, 2)), true);
        due.is("14 another first", sameOf(row(1, 2), row(3, 2)), false);
        due.is("14 another last", sameOf(row(1, 2), row(1, 3)), false);
        due.is("14 one more", sameOf(row(1, 2), row(1, 2, 2)), false);
        due.is("14 one less", sameOf(row(1, 2), row(1)), false);
        due.is("14 nothing", sameOf(row(1), row()), false);
        due.is("14 another order", sameOf(row(1, 2), row(2, 1)), false);
        GrownSnapshots x = Calls.withShorts(1);
        x.mark(0);
        Calls.empty(x, 0);
        Calls.setShorts(x, 1, 1);
        x.mark(0);
        due.is("14 at another task", x.same(0, 1), false);
    }

    // LISTS of PARTS are alike, not bytes.
    private static void promise14ListsNotBytes() {
        GrownSnapshots x = Calls.withShorts(1);
        x.mark(0);
        x.mark(0);
        x.alter(0, NONE, 0, 128);
        due.is("14 broken, but alike", x.same(0, 1), true);
        x.mark(0);
        due.is("14 the same bytes, another part", x.same(0, 2), false);
    }

    // 300 bytes may be 75 PARTS, at each of four TASKS.
    private static void promise14LongestLists() {
        GrownSnapshots x = new GrownSnapshots();
        x.rescale(4);
        for (int task = 0; task < 4; task++) {
            x.extend(task, 300, 0, 0);
        }
        x.mark(0);
        x.mark(0);
        due.is("14 all alike", x.same(0, 1), true);
        x.remove(3, 296, 4);
        Calls.addShort(x, 3, 1);
        x.mark(0);
        due.is("14 all but the last", x.same(1, 2), false);
        due.is("14 it tells the last", x.markTold(2, 4), 1);
    }
}
