/**
 * The edges that promises 10 and 11 name, with what the terms say of reading, usable marks and
 * going back: one test for each sentence, which stands above it, and each answer is labelled
 * with the promise's number.
 */
public final class ReadingEdgesTest {
    private static final int NONE = Calls.NONE;
    private static final int BAD = Calls.BAD;
    private static final int LEAST = Calls.LEAST;
    private static final int MOST = Calls.MOST;
    private static final Due due = new Due();

    public static void main(String[] args) {
        promise10NoMarkEverMade();
        promise10OnceMadeIsEnough();
        promise10NoUsableOne();
        promise10NoneChangesNothing();
        promise10GreatestUpToIt();
        promise10NotOneThatIsHeldAlone();
        promise10TwelveAreHeld();
        promise10UponADroppedBase();
        promise10FewerTasks();
        promise10MoreTasks();
        promise10EmptyStates();
        promise10LongestState();
        promise10OneBehindTheOther();
        promise10CopyFirst();
        promise10BrokenCopy();
        promise10LostPart();
        promise10NoCopy();
        promise10CopiesOfTasksThatAreNoMore();
        promise10OtherCopiesStay();
        promise10MarksStay();
        promise11NoneThatIsKept();
        promise11AllParts();
        promise11ForTheirTasks();
        promise11CopyAgainstThePartsDigest();
        promise11TasksThatAreNoMore();
        promise11NoParts();
        promise11CouldBeRead();
        promise11UpToTheLastPart();
        due.end();
    }

    /** Neither the store nor the task can be read from any more. */
    private static void ruin(GrownSnapshots x, int part, int task) {
        x.lose(part, NONE);
        x.lose(part, task);
    }

    // "BAD: no MARK with that number was ever made".
    private static void promise10NoMarkEverMade() {
        GrownSnapshots x = new GrownSnapshots();
        due.is("10 the first one", x.back(0), BAD);
        x.mark(9);
        due.is("10 a refused one", x.back(0), BAD);
        x.mark(0);
        due.is("10 the one made", x.back(0), 0);
        due.is("10 the next", x.back(1), BAD);
        due.is("10 greatest", x.back(MOST), BAD);
        due.is("10 -1", x.back(-1), BAD);
        due.is("10 least", x.back(LEAST), BAD);
    }

    // ".. was ever made": it need be neither kept nor held.
    private static void promise10OnceMadeIsEnough() {
        GrownSnapshots x = new GrownSnapshots();
        x.mark(1);
        x.mark(1);
        x.mark(1);
        x.drop(1);
        due.is("10 not held", x.markTold(1, 0), BAD);
        due.is("10 the one below", x.back(1), 0);
        x.drop(2);
        due.is("10 two below", x.back(2), 0);
        x.drop(0);
        due.is("10 nothing is held", x.back(2), NONE);
        due.is("10 never made", x.back(3), BAD);
    }

    // "NONE: there is no USABLE one up to it".
    private static void promise10NoUsableOne() {
        GrownSnapshots x = Calls.withShorts(1);
        x.mark(1);
        Calls.setShorts(x, 0, 2);
        x.mark(1);
        ruin(x, 0, 0);
        due.is("10 a later one is usable", x.usable(1), 1);
        due.is("10 but not up to it", x.back(0), NONE);
        due.is("10 up to the later one", x.back(1), 1);
        x.drop(0);
        due.is("10 dropped", x.back(0), NONE);
        ruin(x, 1, 0);
        due.is("10 none at all", x.back(1), NONE);
    }

    // Where there is none to go back to, all stays.
    private static void promise10NoneChangesNothing() {
        GrownSnapshots x = Calls.withShorts(1, 2);
        x.mark(0);
        x.lose(0, 0);
        ruin(x, 1, 0);
        x.rescale(4);
        due.is("10 none", x.back(0), NONE);
        due.is("10 tasks", x.told(0), 4);
        due.is("10 bytes", x.told(8), 8);
        due.is("10 the first state", Calls.bytes(x, 0), "1 0");
        due.is("10 no copy of what could be read", x.told(7), 0);
    }

    // "the greatest number up to it that is a USABLE one"; "the MARK" is the answer.
    private static void promise10GreatestUpToIt() {
        GrownSnapshots x = new GrownSnapshots();
        for (int i = 0; i < 5; i++) {
            Calls.setShorts(x, 0, i);
            x.mark(1);
        }
        due.is("10 itself", x.back(2), 2);
        due.is("10 its state", x.state(0, 0), 2);
        ruin(x, 3, 0);
        due.is("10 one lower", x.back(3), 2);
        ruin(x, 2, 0);
        due.is("10 two lower", x.back(3), 1);
        due.is("10 the state of that", x.state(0, 0), 1);
        due.is("10 one above them is itself", x.back(4), 4);
        x.drop(1);
        due.is("10 over one that is gone", x.back(3), 0);
        due.is("10 the state of the first", x.state(0, 0), 0);
    }

    // "A MARK is USABLE, if it is KEPT and ..".
    private static void promise10NotOneThatIsHeldAlone() {
        GrownSnapshots x = Calls.withShorts(1);
        x.mark(0);
        x.mark(0);
        x.mark(0);
        x.drop(1);
        due.is("10 held", x.markTold(1, 0), 0);
        due.is("10 not to it", x.back(1), 0);
        x.drop(0);
        due.is("10 nor to the first", x.back(1), NONE);
        due.is("10 the one upon them", x.back(2), 2);
    }

    // "at most 12 are HELD": to each of them, and not to one that was refused.
    private static void promise10TwelveAreHeld() {
        GrownSnapshots x = new GrownSnapshots();
        for (int i = 0; i < 12; i++) {
            Calls.setShorts(x, 0, i);
            x.mark(i % 2);
        }
        x.mark(0);
        for (int i = 0; i < 12; i++) {
            due.is("10 back to " + i, x.back(i), i);
            due.is("10 the state of " + i, x.state(0, 0), i);
        }
        due.is("10 not to a refused one", x.back(12), BAD);
    }

    // A grown mark has its whole LISTS, also when its base's parts are freed and made anew.
    private static void promise10UponADroppedBase() {
        GrownSnapshots x = Calls.withShorts(1, 2, 3);
        x.mark(0);
        Calls.setShorts(x, 0, 1, 4, 3);
        x.mark(0);
        due.is("10 one is freed", x.drop(0), 1);
        Calls.setShorts(x, 0, 5);
        x.mark(0);
        due.is("10 its number is used again", x.list(2, 0, 0), 1);
        due.is("10 back", x.back(1), 1);
        due.is("10 bytes", Calls.bytes(x, 0), "1 0 0 0 4 0 0 0 3 0 0 0");
    }

    // "there are as many TASKS as then".
    private static void promise10FewerTasks() {
        GrownSnapshots x = new GrownSnapshots();
        x.rescale(1);
        Calls.setShorts(x, 0, 1);
        x.mark(0);
        x.rescale(4);
        due.is("10 back to one", x.back(0), 0);
        due.is("10 one", x.told(0), 1);
        due.is("10 its bytes", Calls.bytes(x, 0), "1 0 0 0");
        due.is("10 no others", x.state(1, 0), BAD);
        x.rescale(2);
        due.is("10 nothing is left of the others", x.told(8), 4);
    }

    // The same with more.
    private static void promise10MoreTasks() {
        GrownSnapshots x = new GrownSnapshots();
        x.rescale(4);
        for (int task = 0; task < 4; task++) {
            Calls.setShorts(x, task, task + 1);
        }
        x.mark(0);
        x.rescale(1);
        due.is("10 back to four", x.back(0), 0);
        due.is("10 four", x.told(0), 4);
        for (int task = 0; task < 4; task++) {
            due.is("10 task " + task, Calls.bytes(x, task), task + 1 + " 0 0 0");
        }
        due.is("10 a copy each, as they were read", x.told(7), 4);
    }

    // A LIST may have no PARTS.
    private static void promise10EmptyStates() {
        GrownSnapshots x = new GrownSnapshots();
        x.mark(0);
        x.extend(0, 300, 1, 1);
        x.extend(1, 300, 1, 1);
        due.is("10 back to nothing", x.back(0), 0);
        due.is("10 no bytes", x.told(8), 0);
        due.is("10 none to read", x.state(0, 0), BAD);
        due.is("10 room again", x.extend(1, 300, 0, 0), 300);
    }

    // A STATE has up to 300 bytes, in up to 75 PARTS.
    private static void promise10LongestState() {
        GrownSnapshots x = new GrownSnapshots();
        x.extend(0, 300, 0, 0);
        x.extend(1, 300, 7, 0);
        x.mark(0);
        Calls.empty(x, 0);
        Calls.empty(x, 1);
        due.is("10 back", x.back(0), 0);
        due.is("10 600 bytes", x.told(8), 600);
        due.is("10 75 chunks", x.chunk(0, NONE), 75);
        due.is("10 10 chunks", x.chunk(1, NONE), 10);
        due.is("10 the last byte", x.state(1, 299), 7);
    }

    // "each STATE is its LIST's PARTS, READ one by one, one behind the other".
    private static void promise10OneBehindTheOther() {
        GrownSnapshots x = Calls.withShorts(1, 2, 1);
        x.extend(0, 2, 9, 0);
        x.mark(0);
        Calls.setShorts(x, 0, 7, 8, 9, 10, 11, 12);
        x.back(0);
        due.is("10 in order", Calls.bytes(x, 0), "1 0 0 0 2 0 0 0 1 0 0 0 9 9");
        // What is read twice is altered twice.
        x.alter(0, 0, 0, 1 ^ 62);
        x.back(0);
        due.is("10 as it is read", Calls.bytes(x, 0), "62 0 0 0 2 0 0 0 62 0 0 0 9 9");
    }

    // "its COPY, if there is one that is not BROKEN".
    private static void promise10CopyFirst() {
        GrownSnapshots x = Calls.withShorts(1);
        x.mark(0);
        x.alter(0, 0, 0, 1 ^ 62);
        x.back(0);
        due.is("10 the copy's bytes", x.state(0, 0), 62);
        due.is("10 the copy stays", x.partByte(0, 0, 0), 62);
        due.is("10 the part stays", x.partByte(0, NONE, 0), 1);
        x.alter(0, NONE, 0, 128);
        due.is("10 whatever the store has", x.back(0), 0);
        due.is("10 the copy's bytes again", x.state(0, 0), 62);
    }

    // "else the PART ..: then the TASK has a COPY of it, with its bytes (in place of one there)".
    private static void promise10BrokenCopy() {
        GrownSnapshots x = Calls.withShorts(1);
        x.mark(0);
        x.alter(0, 0, 0, 128);
        x.alter(0, NONE, 0, 1 ^ 62);
        due.is("10 back", x.back(0), 0);
        due.is("10 the part's bytes as they are", x.state(0, 0), 62);
        due.is("10 the copy has them", x.partByte(0, 0, 0), 62);
        due.is("10 one copy", x.told(7), 1);
    }

    // "if it is not BROKEN": a lost part is read from a copy, and stays lost.
    private static void promise10LostPart() {
        GrownSnapshots x = Calls.withShorts(1);
        x.mark(0);
        x.lose(0, NONE);
        Calls.empty(x, 0);
        due.is("10 by the copy", x.back(0), 0);
        due.is("10 its bytes", Calls.bytes(x, 0), "1 0 0 0");
        due.is("10 lost it is", x.partByte(0, NONE, 0), BAD);
        x.alter(0, 0, 3, 1);
        due.is("10 a broken copy of a lost one", x.back(0), NONE);
    }

    // A TASK without a COPY reads THE STORE's and has one then.
    private static void promise10NoCopy() {
        GrownSnapshots x = Calls.withShorts(1, 2);
        x.mark(0);
        x.lose(0, 0);
        x.back(0);
        due.is("10 a copy again", x.partByte(0, 0, 0), 1);
        due.is("10 two", x.told(7), 2);
        x.lose(0, NONE);
        due.is("10 so it can be read on", x.usable(0), 1);
    }

    // "(COPIES of TASKS that are no more go.)"
    private static void promise10CopiesOfTasksThatAreNoMore() {
        GrownSnapshots x = new GrownSnapshots();
        x.rescale(1);
        x.mark(0);
        x.rescale(4);
        for (int task = 0; task < 4; task++) {
            Calls.setShorts(x, task, 1);
        }
        x.mark(0);
        due.is("10 four copies", x.told(7), 4);
        x.back(0);
        due.is("10 one stays", x.told(7), 1);
        x.rescale(4);
        due.is("10 they do not come again", x.told(7), 1);
        due.is("10 none at the last", x.partByte(0, 3, 0), BAD);
    }

    // Going back touches the copies of the parts that it reads, and no others.
    private static void promise10OtherCopiesStay() {
        GrownSnapshots x = Calls.withShorts(1);
        x.mark(1);
        Calls.setShorts(x, 0, 2);
        x.mark(1);
        x.alter(1, 0, 0, 128);
        x.back(0);
        due.is("10 of a later mark's part", x.partByte(1, 0, 0), 130);
        due.is("10 none for a task that does not read it", x.partByte(0, 1, 0), BAD);
    }

    // MARKS, PARTS and the next number stay.
    private static void promise10MarksStay() {
        GrownSnapshots x = Calls.withShorts(1);
        x.mark(0);
        Calls.setShorts(x, 0, 2);
        x.mark(0);
        x.back(0);
        due.is("10 both are kept", x.told(1), 2);
        due.is("10 both parts", x.told(3), 2);
        due.is("10 the next number", x.told(5), 2);
        due.is("10 forth again", x.back(1), 1);
        due.is("10 its state", x.state(0, 0), 2);
    }

    // "BAD: there is no such thing (a MARK: none that is KEPT)".
    private static void promise11NoneThatIsKept() {
        GrownSnapshots x = new GrownSnapshots();
        due.is("11 none made", x.usable(0), BAD);
        x.mark(0);
        x.mark(0);
        due.is("11 the next", x.usable(2), BAD);
        due.is("11 -1", x.usable(-1), BAD);
        due.is("11 least", x.usable(LEAST), BAD);
        due.is("11 greatest", x.usable(MOST), BAD);
        x.drop(0);
        due.is("11 held alone", x.usable(0), BAD);
        x.drop(1);
        due.is("11 dropped", x.usable(1), BAD);
    }

    // "all PARTS of its LISTS could be READ": each one of them counts.
    private static void promise11AllParts() {
        for (int part = 0; part < 3; part++) {
            GrownSnapshots x = Calls.withShorts(1, 2, 3);
            x.mark(0);
            due.is("11 all are sound", x.usable(0), 1);
            x.lose(part, NONE);
            due.is("11 a copy is", x.usable(0), 1);
            x.alter(part, 0, 0, 128);
            due.is("11 neither is", x.usable(0), 0);
            x.alter(part, 0, 0, 128);
            due.is("11 the copy is again", x.usable(0), 1);
            x.lose(part, 0);
            due.is("11 there is none", x.usable(0), 0);
        }
    }

    // ".. for their TASKS": another one's copy does not help.
    private static void promise11ForTheirTasks() {
        GrownSnapshots x = Calls.withShorts(1);
        Calls.setShorts(x, 1, 2);
        x.mark(0);
        Calls.setShorts(x, 0, 2);
        Calls.setShorts(x, 1, 1);
        x.mark(1);
        x.lose(0, NONE);
        x.lose(0, 0);
        due.is("11 task 0 can't", x.usable(0), 0);
        due.is("11 task 1 can", x.usable(1), 1);
    }

    // "bytes of its own, that are BROKEN likewise (against the PART's DIGEST)".
    private static void promise11CopyAgainstThePartsDigest() {
        GrownSnapshots x = Calls.withShorts(1);
        x.mark(0);
        x.alter(0, NONE, 0, 128);
        due.is("11 whatever the part has now", x.usable(0), 1);
        x.alter(0, 0, 0, 128);
        due.is("11 alike, but both broken", x.usable(0), 0);
        x.alter(0, 0, 0, 129 ^ 62);
        due.is("11 other bytes with the digest", x.usable(0), 1);
    }

    // A TASK that is no more has no COPIES: THE STORE's are left.
    private static void promise11TasksThatAreNoMore() {
        GrownSnapshots x = new GrownSnapshots();
        x.rescale(4);
        Calls.setShorts(x, 3, 1);
        x.mark(0);
        x.lose(0, NONE);
        due.is("11 by the copy", x.usable(0), 1);
        x.rescale(3);
        due.is("11 it went", x.usable(0), 0);
        x.rescale(4);
        due.is("11 and does not come again", x.usable(0), 0);
        GrownSnapshots y = new GrownSnapshots();
        y.rescale(4);
        Calls.setShorts(y, 3, 1);
        y.mark(0);
        y.rescale(1);
        due.is("11 by the store", y.usable(0), 1);
    }

    // A MARK without PARTS can always be read.
    private static void promise11NoParts() {
        GrownSnapshots x = new GrownSnapshots();
        x.mark(0);
        Calls.setShorts(x, 0, 1);
        x.mark(0);
        ruin(x, 0, 0);
        due.is("11 of nothing", x.usable(0), 1);
        due.is("11 of something", x.usable(1), 0);
    }

    // "could be READ": asking reads nothing, so no copy comes or is replaced.
    private static void promise11CouldBeRead() {
        GrownSnapshots x = Calls.withShorts(1, 2);
        x.mark(0);
        x.lose(0, 0);
        x.alter(1, 0, 0, 128);
        due.is("11 by the store", x.usable(0), 1);
        due.is("11 no copy comes", x.partTold(0, 4), 0);
        due.is("11 none is replaced", x.partByte(1, 0, 0), 130);
    }

    // The last of 75 parts, of the last of four tasks.
    private static void promise11UpToTheLastPart() {
        GrownSnapshots x = new GrownSnapshots();
        x.rescale(4);
        for (int task = 0; task < 4; task++) {
            x.extend(task, 296, 0, 0);
        }
        Calls.addShort(x, 3, 1);
        x.mark(0);
        due.is("11 the last one", x.list(0, 3, 74), 1);
        due.is("11 all", x.usable(0), 1);
        ruin(x, 1, 3);
        due.is("11 all but the last", x.usable(0), 0);
    }
}
