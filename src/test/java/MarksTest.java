/** Promises 8 to 14. */
public final class MarksTest {
    private static final int NONE = Calls.NONE;
    private static final int BAD = Calls.BAD;
    private static final int FULL = Calls.FULL;
    private static final Due due = new Due();

    public static void main(String[] args) {
        promise8Mark();
        promise8DigestsThatMeet();
        promise8BrokenPartsAreNotFound();
        promise8AlteredPartIsFoundByItsBytesNow();
        promise8CopiesAreReplaced();
        promise8LeastNumber();
        promise8FullOfParts();
        promise8FullOfBytes();
        promise8FullOfHeld();
        promise9Drop();
        promise9DropHeldBases();
        promise10Back();
        promise10BackToAnEarlierOne();
        promise10BackCopies();
        promise10BackReadsCopiesFirst();
        promise11Usable();
        promise12MarkTold();
        promise12MarkToldGrown();
        promise12MarkToldOfDropped();
        promise13List();
        promise14Same();
        due.end();
    }

    private static void promise8Mark() {
        GrownSnapshots x = new GrownSnapshots();
        due.is("8 whole 2", x.mark(2), BAD);
        due.is("8 whole -1", x.mark(-1), BAD);
        due.is("8 nothing marked", x.told(5), 0);
        due.is("8 of empty states", x.mark(0), 0);
        due.is("8 no parts", x.told(3), 0);
        Calls.addShort(x, 0, 1);
        Calls.addShort(x, 0, 2);
        Calls.addShort(x, 0, 1);
        Calls.addShort(x, 1, 3);
        Calls.addShort(x, 1, 2);
        due.is("8 the next", x.mark(1), 1);
        due.is("8 equal pieces once", Calls.list(x, 1, 0), "0 1 0");
        due.is("8 over tasks, too", Calls.list(x, 1, 1), "2 1");
        due.is("8 parts", x.told(3), 3);
        due.is("8 bytes", x.told(4), 12);
        due.is("8 copies", x.told(7), 4);
        due.is("8 again", x.mark(0), 2);
        due.is("8 nothing new", x.told(3), 3);
        due.is("8 kept", x.told(1), 3);
        due.is("8 held", x.told(2), 3);
        due.is("8 states stay", x.told(8), 20);
    }

    private static void promise8DigestsThatMeet() {
        GrownSnapshots x = new GrownSnapshots();
        Calls.addShort(x, 0, 0);
        Calls.addShort(x, 0, 61);
        x.mark(0);
        due.is("8 two parts", Calls.list(x, 0, 0), "0 1");
        due.is("8 digest", x.partTold(0, 1), 42);
        due.is("8 the same digest", x.partTold(1, 1), 42);
        // 31 * 1 + 11 is 42.
        x.insert(1, 0, 1, 11L);
        x.mark(0);
        due.is("8 the same digest, another size", x.partTold(2, 1), 42);
        due.is("8 is another part", Calls.list(x, 1, 1), "2");
    }

    private static void promise8BrokenPartsAreNotFound() {
        GrownSnapshots x = new GrownSnapshots();
        Calls.addShort(x, 0, 5);
        Calls.addShort(x, 0, 6);
        x.mark(0);
        x.alter(0, NONE, 0, 1);
        x.lose(1, NONE);
        x.mark(0);
        due.is("8 new ones for broken ones", Calls.list(x, 1, 0), "2 3");
        due.is("8 their bytes", x.partByte(2, NONE, 0), 5);
        due.is("8 bytes of lost ones, too", x.told(4), 16);
        x.alter(0, NONE, 0, 1);
        x.mark(0);
        due.is("8 the least that is sound again", Calls.list(x, 2, 0), "0 3");
    }

    private static void promise8AlteredPartIsFoundByItsBytesNow() {
        GrownSnapshots x = new GrownSnapshots();
        Calls.addShort(x, 0, 0);
        x.mark(0);
        due.is("8 altered to the same digest", x.alter(0, NONE, 0, 61), 61);
        due.is("8 is not broken", x.partTold(0, 3), 0);
        Calls.addShort(x, 0, 61);
        x.mark(0);
        due.is("8 the bytes as they are", Calls.list(x, 1, 0), "1 0");
    }

    private static void promise8CopiesAreReplaced() {
        GrownSnapshots x = new GrownSnapshots();
        Calls.addShort(x, 0, 9);
        x.mark(0);
        x.alter(0, 0, 0, 255);
        due.is("8 altered copy", x.partByte(0, 0, 0), 246);
        x.mark(0);
        due.is("8 copy in its place", x.partByte(0, 0, 0), 9);
        x.lose(0, 0);
        x.mark(0);
        due.is("8 copy anew", x.partByte(0, 0, 0), 9);
        due.is("8 none for the other task", x.partByte(0, 1, 0), BAD);
    }

    private static void promise8LeastNumber() {
        GrownSnapshots x = new GrownSnapshots();
        Calls.addShort(x, 0, 1);
        Calls.addShort(x, 0, 2);
        x.mark(0);
        Calls.empty(x, 0);
        Calls.addShort(x, 0, 2);
        x.mark(0);
        x.drop(0);
        due.is("8 part 0 went", x.partTold(0, 0), BAD);
        Calls.addShort(x, 0, 3);
        Calls.addShort(x, 0, 4);
        x.mark(0);
        due.is("8 the least that is not there", Calls.list(x, 2, 0), "1 0 2");
    }

    private static void promise8FullOfParts() {
        GrownSnapshots x = new GrownSnapshots();
        for (int i = 0; i < 75; i++) {
            Calls.addShort(x, 0, i);
        }
        for (int i = 75; i < 121; i++) {
            Calls.addShort(x, 1, i);
        }
        due.is("8 121 parts", x.mark(0), FULL);
        due.is("8 no part", x.told(3), 0);
        due.is("8 no bytes", x.told(4), 0);
        due.is("8 no copy", x.told(7), 0);
        due.is("8 no mark", x.told(5), 0);
        due.is("8 none held", x.told(2), 0);
        x.remove(1, 45 * 4, 4);
        due.is("8 120 parts", x.mark(0), 0);
        due.is("8 so many", x.told(3), 120);
        due.is("8 the greatest", x.partTold(119, 0), 4);
        due.is("8 none behind", x.partTold(120, 0), BAD);
        due.is("8 the same again", x.mark(0), 1);
        x.lose(119, NONE);
        due.is("8 a lost one counts", x.mark(0), FULL);
        x.insert(1, 0, 1, 1L);
        due.is("8 another", x.mark(1), FULL);
        due.is("8 bytes", x.told(4), 480);
    }

    private static void promise8FullOfBytes() {
        GrownSnapshots x = new GrownSnapshots();
        x.rescale(4);
        int value = 1;
        for (int round = 0; round < 2; round++) {
            for (int task = 0; task < 4; task++) {
                Calls.empty(x, task);
                for (int i = 0; i < 9; i++) {
                    value += value % 11 == 0 ? 1 : 0;
                    Calls.addLong(x, task, value);
                    value++;
                }
            }
            due.is("8 1152 bytes each", x.mark(0), round);
        }
        due.is("8 2304 bytes", x.told(4), 2304);
        Calls.empty(x, 0);
        Calls.addLong(x, 0, 255);
        Calls.addLong(x, 0, 254);
        Calls.addLong(x, 0, 252);
        x.extend(0, 1, 251, 0);
        due.is("8 2401 bytes", x.mark(0), FULL);
        due.is("8 bytes stay", x.told(4), 2304);
        due.is("8 parts stay", x.told(3), 72);
        due.is("8 copies stay", x.told(7), 72);
        x.remove(0, 96, 1);
        x.lose(0, NONE);
        due.is("8 2400 bytes", x.mark(0), 2);
        due.is("8 lost ones, too", x.told(4), 2400);
        x.extend(0, 1, 251, 0);
        due.is("8 one more", x.mark(0), FULL);
        due.is("8 numbers stay", x.told(5), 3);
    }

    private static void promise8FullOfHeld() {
        GrownSnapshots x = new GrownSnapshots();
        for (int i = 0; i < 12; i++) {
            due.is("8 mark", x.mark(0), i);
        }
        due.is("8 the thirteenth", x.mark(0), FULL);
        due.is("8 the thirteenth, whole", x.mark(1), FULL);
        due.is("8 BAD ahead of FULL", x.mark(3), BAD);
        for (int i = 0; i < 11; i++) {
            x.drop(i);
        }
        due.is("8 one is kept", x.told(1), 1);
        due.is("8 bases are held", x.told(2), 12);
        due.is("8 held ones count", x.mark(0), FULL);
        x.drop(11);
        due.is("8 none is held", x.told(2), 0);
        due.is("8 whole without a kept one", x.mark(0), 12);
        due.is("8 so no base", x.markTold(12, 1), NONE);
    }

    private static void promise9Drop() {
        GrownSnapshots x = new GrownSnapshots();
        due.is("9 none such", x.drop(0), BAD);
        Calls.addShort(x, 0, 1);
        Calls.addShort(x, 1, 2);
        x.mark(0);
        Calls.addShort(x, 0, 3);
        x.mark(1);
        due.is("9 a copy", x.told(7), 3);
        due.is("9 nothing is freed", x.drop(0), 0);
        due.is("9 twice", x.drop(0), BAD);
        due.is("9 -1", x.drop(-1), BAD);
        due.is("9 not yet", x.drop(2), BAD);
        Calls.empty(x, 1);
        x.mark(1);
        due.is("9 just what no mark names", x.drop(1), 1);
        due.is("9 it is there no more", x.partTold(1, 0), BAD);
        due.is("9 nor its copy", x.told(7), 2);
        due.is("9 nor a byte of it", x.partByte(1, 1, 0), BAD);
        due.is("9 what is named stays", x.partTold(0, 2), 1);
        due.is("9 bytes", x.told(4), 8);
        due.is("9 all", x.drop(2), 2);
        due.is("9 no parts", x.told(3), 0);
        due.is("9 numbers go on", x.mark(0), 3);
        x.lose(0, NONE);
        due.is("9 a lost one is freed, too", x.drop(3), 2);
        due.is("9 no copies", x.told(7), 0);
    }

    private static void promise9DropHeldBases() {
        GrownSnapshots x = new GrownSnapshots();
        Calls.addShort(x, 0, 1);
        x.mark(0);
        Calls.empty(x, 0);
        x.mark(0);
        x.mark(0);
        due.is("9 a base's parts are freed", x.drop(0), 1);
        due.is("9 it is held", x.told(2), 3);
        due.is("9 it is not kept", x.usable(0), BAD);
        x.drop(1);
        due.is("9 bases of bases", x.told(2), 3);
        x.mark(1);
        due.is("9 the chain goes", x.drop(2), 0);
        due.is("9 the whole one stays", x.told(2), 1);
        due.is("9 the first is not held", x.markTold(0, 0), BAD);
        x.mark(0);
        x.mark(0);
        x.drop(4);
        due.is("9 in the midst", x.told(2), 3);
        x.drop(5);
        due.is("9 both go", x.told(2), 1);
        due.is("9 the one below stays", x.markTold(3, 0), 1);
    }

    private static void promise10Back() {
        GrownSnapshots x = new GrownSnapshots();
        due.is("10 never made", x.back(0), BAD);
        x.extend(0, 100, 3, 5);
        x.extend(1, 90, 1, 3);
        String first = Calls.bytes(x, 0);
        String second = Calls.bytes(x, 1);
        x.mark(0);
        x.remove(0, 10, 50);
        x.insert(1, 3, 8, 77L);
        x.mark(0);
        x.rescale(4);
        due.is("10 to the first", x.back(0), 0);
        due.is("10 as many tasks", x.told(0), 2);
        due.is("10 task 0", Calls.bytes(x, 0), first);
        due.is("10 task 1", Calls.bytes(x, 1), second);
        due.is("10 no task 2", Calls.size(x, 2), BAD);
        due.is("10 forth", x.back(1), 1);
        due.is("10 sizes then", Calls.size(x, 0), 50);
        due.is("10 -1", x.back(-1), BAD);
        due.is("10 the next", x.back(2), BAD);
        due.is("10 marks stay", x.told(1), 2);
        x.rescale(1);
        due.is("10 more tasks", x.back(1), 1);
        due.is("10 two again", x.told(0), 2);
        due.is("10 the other's size", Calls.size(x, 1), 98);
    }

    private static void promise10BackToAnEarlierOne() {
        GrownSnapshots x = new GrownSnapshots();
        for (int i = 0; i < 4; i++) {
            Calls.empty(x, 0);
            Calls.addShort(x, 0, i + 1);
            x.mark(1);
        }
        x.drop(2);
        due.is("10 the one below a dropped one", x.back(2), 1);
        due.is("10 its state", x.state(0, 0), 2);
        x.lose(3, NONE);
        due.is("10 by the copy", x.back(3), 3);
        x.lose(3, 0);
        due.is("10 below one that can't be read", x.back(3), 1);
        due.is("10 its state again", x.state(0, 0), 2);
        x.lose(0, NONE);
        x.alter(0, 0, 3, 128);
        Calls.addShort(x, 1, 9);
        due.is("10 none", x.back(0), NONE);
        due.is("10 nothing changed", x.told(8), 8);
        x.drop(0);
        due.is("10 none, dropped", x.back(0), NONE);
        due.is("10 unusable one stays kept", x.usable(3), 0);
    }

    private static void promise10BackCopies() {
        GrownSnapshots x = new GrownSnapshots();
        x.rescale(1);
        Calls.addShort(x, 0, 1);
        x.mark(0);
        Calls.empty(x, 0);
        x.rescale(3);
        Calls.addShort(x, 2, 2);
        x.mark(1);
        due.is("10 task 2 has a copy", x.partTold(1, 4), 1);
        due.is("10 to one task", x.back(0), 0);
        due.is("10 copies of 2 went", x.partTold(1, 4), 0);
        due.is("10 back to three", x.back(1), 1);
        due.is("10 read for 2, so a copy", x.partByte(1, 2, 0), 2);
        due.is("10 none for 1", x.partByte(1, 1, 0), BAD);
        x.lose(1, 2);
        due.is("10 asking makes no copy", x.usable(1), 1);
        due.is("10 still none", x.partTold(1, 4), 0);
    }

    private static void promise10BackReadsCopiesFirst() {
        GrownSnapshots x = new GrownSnapshots();
        Calls.addShort(x, 0, 0);
        Calls.addShort(x, 1, 0);
        x.mark(0);
        // The digest stays, so this copy is read, altered as it is.
        x.alter(0, 0, 0, 61);
        x.alter(0, 1, 0, 1);
        due.is("10 back", x.back(0), 0);
        due.is("10 a copy with the digest", Calls.bytes(x, 0), "61 0 0 0");
        due.is("10 a broken copy is not read", Calls.bytes(x, 1), "0 0 0 0");
        due.is("10 it is replaced", x.partByte(0, 1, 0), 0);
        due.is("10 the other is not", x.partByte(0, 0, 0), 61);
        x.alter(0, NONE, 0, 122);
        x.lose(0, 1);
        x.back(0);
        due.is("10 122 breaks it not", x.partTold(0, 3), 0);
        due.is("10 from the store", Calls.bytes(x, 1), "122 0 0 0");
        due.is("10 a copy with its bytes", x.partByte(0, 1, 0), 122);
    }

    private static void promise11Usable() {
        GrownSnapshots x = new GrownSnapshots();
        due.is("11 none such", x.usable(0), BAD);
        x.mark(0);
        due.is("11 of nothing", x.usable(0), 1);
        Calls.addShort(x, 0, 1);
        Calls.addShort(x, 1, 1);
        x.mark(0);
        due.is("11 sound", x.usable(1), 1);
        x.alter(0, NONE, 0, 4);
        due.is("11 by copies", x.usable(1), 1);
        x.alter(0, 1, 0, 4);
        due.is("11 broken for one task", x.usable(1), 0);
        x.alter(0, NONE, 0, 4);
        due.is("11 by the store", x.usable(1), 1);
        x.lose(0, NONE);
        x.alter(0, 1, 0, 4);
        due.is("11 the copy is itself again", x.usable(1), 1);
        x.rescale(1);
        due.is("11 the task went, with its copy", x.usable(1), 0);
        due.is("11 the other mark", x.usable(0), 1);
        due.is("11 -1", x.usable(-1), BAD);
        due.is("11 2", x.usable(2), BAD);
        x.drop(0);
        due.is("11 held, not kept", x.usable(0), BAD);
    }

    private static void told(GrownSnapshots x, int mark, int... want) {
        for (int what = 0; what < want.length; what++) {
            due.is("12 markTold(" + mark + ", " + what + ")", x.markTold(mark, what), want[what]);
        }
    }

    private static void promise12MarkTold() {
        GrownSnapshots x = new GrownSnapshots();
        due.is("12 none such", x.markTold(0, 0), BAD);
        Calls.addShort(x, 0, 1);
        Calls.addShort(x, 0, 2);
        Calls.addShort(x, 1, 1);
        x.insert(1, 4, 1, 7L);
        x.mark(0);
        told(x, 0, 1, NONE, 2, 4, 4, 13, 9);
        x.mark(0);
        told(x, 1, 1, 0, 2, 4, 0, 13, 0);
        x.mark(1);
        told(x, 2, 1, NONE, 2, 4, 4, 13, 0);
        x.rescale(1);
        x.mark(0);
        told(x, 3, 1, 2, 1, 4, 2, 13, 0);
        due.is("12 what -1", x.markTold(0, -1), BAD);
        due.is("12 what 7", x.markTold(0, 7), BAD);
        due.is("12 mark -1", x.markTold(-1, 0), BAD);
        due.is("12 mark 4", x.markTold(4, 0), BAD);
    }

    private static void promise12MarkToldGrown() {
        GrownSnapshots x = new GrownSnapshots();
        Calls.setShorts(x, 0, 1, 2, 3, 4, 5);
        x.mark(0);
        Calls.setShorts(x, 0, 1, 2, 9, 4, 5);
        x.mark(0);
        due.is("12 one between", x.markTold(1, 4), 1);
        due.is("12 its bytes are new", x.markTold(1, 6), 4);
        Calls.setShorts(x, 0, 1, 5);
        x.mark(0);
        due.is("12 some went", x.markTold(2, 4), 0);
        Calls.setShorts(x, 0, 1, 5, 1, 5);
        x.mark(0);
        due.is("12 the end only of what is left of both", x.markTold(3, 4), 2);
        Calls.setShorts(x, 0, 1, 5, 5);
        x.mark(0);
        due.is("12 two at the beginning, one at the end", x.markTold(4, 4), 0);
        Calls.setShorts(x, 0, 5, 1, 5, 5);
        x.mark(0);
        due.is("12 all at the end", x.markTold(5, 4), 1);
        x.rescale(4);
        Calls.setShorts(x, 0, 5, 1, 5, 5);
        Calls.setShorts(x, 1);
        Calls.setShorts(x, 2, 1, 5);
        Calls.setShorts(x, 3, 1);
        x.mark(0);
        due.is("12 all of tasks that are more", x.markTold(6, 4), 3);
        due.is("12 of so many", x.markTold(6, 3), 7);
        x.drop(6);
        x.drop(5);
        Calls.setShorts(x, 0, 1, 5, 5);
        x.mark(0);
        due.is("12 upon the latest that is kept", x.markTold(7, 1), 4);
        due.is("12 so compared with it", x.markTold(7, 4), 3);
    }

    private static void promise12MarkToldOfDropped() {
        GrownSnapshots x = new GrownSnapshots();
        Calls.setShorts(x, 0, 1, 2);
        x.mark(0);
        Calls.setShorts(x, 0, 3);
        x.mark(0);
        x.drop(0);
        told(x, 0, 0, NONE, 2, 2, 2, 8, 8);
        Calls.setShorts(x, 0, 4, 5, 6);
        x.mark(0);
        told(x, 0, 0, NONE, 2, 2, 2, 8, 8);
        told(x, 2, 1, 1, 2, 3, 3, 12, 12);
        x.lose(0, NONE);
        told(x, 2, 1, 1, 2, 3, 3, 12, 12);
        x.drop(1);
        told(x, 1, 0, 0, 2, 1, 1, 4, 4);
        x.drop(2);
        due.is("12 not held", x.markTold(0, 0), BAD);
        due.is("12 not held, either", x.markTold(1, 0), BAD);
    }

    private static void promise13List() {
        GrownSnapshots x = new GrownSnapshots();
        due.is("13 none such", x.list(0, 0, 0), BAD);
        Calls.setShorts(x, 0, 1, 2, 1);
        x.mark(0);
        due.is("13 first", x.list(0, 0, 0), 0);
        due.is("13 second", x.list(0, 0, 1), 1);
        due.is("13 third", x.list(0, 0, 2), 0);
        due.is("13 not so many", x.list(0, 0, 3), NONE);
        due.is("13 far from so many", x.list(0, 0, Integer.MAX_VALUE), NONE);
        due.is("13 an empty list", x.list(0, 1, 0), NONE);
        due.is("13 i -1", x.list(0, 0, -1), BAD);
        due.is("13 task -1", x.list(0, -1, 0), BAD);
        due.is("13 task 2", x.list(0, 2, 0), BAD);
        x.rescale(4);
        due.is("13 not a task then", x.list(0, 3, 0), BAD);
        x.mark(0);
        x.rescale(1);
        due.is("13 a task then", x.list(1, 3, 9), NONE);
        due.is("13 no task 4", x.list(1, 4, 0), BAD);
        x.drop(0);
        due.is("13 held, not kept", x.list(0, 0, 0), BAD);
        due.is("13 mark 2", x.list(2, 0, 0), BAD);
        due.is("13 mark -1", x.list(-1, 0, 0), BAD);
    }

    private static void promise14Same() {
        GrownSnapshots x = new GrownSnapshots();
        due.is("14 none such", x.same(0, 0), false);
        Calls.setShorts(x, 0, 1, 2);
        x.mark(0);
        x.mark(1);
        due.is("14 alike", x.same(0, 1), true);
        due.is("14 itself", x.same(1, 1), true);
        Calls.setShorts(x, 0, 2, 1);
        x.mark(0);
        due.is("14 another order", x.same(1, 2), false);
        Calls.setShorts(x, 0, 2);
        x.mark(0);
        due.is("14 shorter", x.same(2, 3), false);
        due.is("14 longer", x.same(3, 2), false);
        Calls.setShorts(x, 1, 1);
        x.mark(0);
        due.is("14 another second list", x.same(3, 4), false);
        Calls.setShorts(x, 0);
        Calls.setShorts(x, 1);
        x.mark(0);
        x.rescale(3);
        x.mark(0);
        due.is("14 as empty, not as many tasks", x.same(5, 6), false);
        due.is("14 the other way", x.same(6, 5), false);
        due.is("14 none such at the right", x.same(0, 7), false);
        due.is("14 none such at the left", x.same(-1, 0), false);
        x.drop(0);
        due.is("14 not kept", x.same(0, 1), false);
        due.is("14 not kept, either", x.same(0, 0), false);
    }
}
