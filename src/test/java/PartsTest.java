/** Promises 15 to 19. */
public final class PartsTest {
    private static final int NONE = Calls.NONE;
    private static final int BAD = Calls.BAD;
    private static final Due due = new Due();

    public static void main(String[] args) {
        promise15PartTold();
        promise15PartToldBroken();
        promise16PartByte();
        promise17Alter();
        promise18Lose();
        promise19Told();
        due.end();
    }

    private static void told(GrownSnapshots x, int part, int... want) {
        for (int what = 0; what < want.length; what++) {
            due.is("15 partTold(" + part + ", " + what + ")", x.partTold(part, what), want[what]);
        }
    }

    private static void promise15PartTold() {
        GrownSnapshots x = new GrownSnapshots();
        due.is("15 none there", x.partTold(0, 0), BAD);
        Calls.addShort(x, 0, 0);
        Calls.addShort(x, 0, 0);
        Calls.addShort(x, 1, 0);
        x.insert(1, 4, 1, 1L);
        x.mark(0);
        told(x, 0, 4, 42, 1, 0, 2);
        told(x, 1, 1, 32, 1, 0, 1);
        Calls.empty(x, 1);
        x.mark(0);
        told(x, 0, 4, 42, 2, 0, 2);
        told(x, 1, 1, 32, 1, 0, 1);
        x.drop(0);
        told(x, 0, 4, 42, 1, 0, 2);
        due.is("15 freed", x.partTold(1, 0), BAD);
        due.is("15 what -1", x.partTold(0, -1), BAD);
        due.is("15 what 5", x.partTold(0, 5), BAD);
        due.is("15 part -1", x.partTold(-1, 0), BAD);
        due.is("15 part 120", x.partTold(120, 0), BAD);
        due.is("15 part greatest", x.partTold(Integer.MAX_VALUE, 0), BAD);
    }

    private static void promise15PartToldBroken() {
        GrownSnapshots x = new GrownSnapshots();
        Calls.addShort(x, 0, 0);
        x.mark(0);
        x.alter(0, NONE, 2, 1);
        told(x, 0, 4, 42, 1, 1, 1);
        x.alter(0, NONE, 2, 1);
        told(x, 0, 4, 42, 1, 0, 1);
        x.alter(0, NONE, 2, 61);
        told(x, 0, 4, 42, 1, 0, 1);
        x.alter(0, 0, 0, 1);
        told(x, 0, 4, 42, 1, 0, 1);
        x.lose(0, NONE);
        told(x, 0, 4, 42, 1, 1, 1);
        x.lose(0, 0);
        told(x, 0, 4, 42, 1, 1, 0);
    }

    private static void promise16PartByte() {
        GrownSnapshots x = new GrownSnapshots();
        due.is("16 no part", x.partByte(0, NONE, 0), BAD);
        x.insert(0, 0, 3, 0x05FF80L);
        x.mark(0);
        due.is("16 byte 0", x.partByte(0, NONE, 0), 5);
        due.is("16 byte 1", x.partByte(0, NONE, 1), 255);
        due.is("16 byte 2", x.partByte(0, NONE, 2), 128);
        due.is("16 byte 3", x.partByte(0, NONE, 3), BAD);
        due.is("16 byte -1", x.partByte(0, NONE, -1), BAD);
        due.is("16 the copy's", x.partByte(0, 0, 1), 255);
        due.is("16 the copy's byte 3", x.partByte(0, 0, 3), BAD);
        due.is("16 no copy", x.partByte(0, 1, 1), BAD);
        due.is("16 no task 2", x.partByte(0, 2, 1), BAD);
        due.is("16 no task -2", x.partByte(0, -2, 1), BAD);
        due.is("16 no task 9", x.partByte(0, 9, 1), BAD);
        due.is("16 part 1", x.partByte(1, NONE, 0), BAD);
        due.is("16 part -1", x.partByte(-1, NONE, 0), BAD);
        due.is("16 part 120", x.partByte(120, 0, 0), BAD);
        x.alter(0, 0, 1, 15);
        due.is("16 the copy has its own", x.partByte(0, 0, 1), 240);
        due.is("16 the store's stays", x.partByte(0, NONE, 1), 255);
        x.lose(0, NONE);
        due.is("16 lost", x.partByte(0, NONE, 1), BAD);
        due.is("16 not the copy", x.partByte(0, 0, 1), 240);
        x.lose(0, 0);
        due.is("16 nor the copy any more", x.partByte(0, 0, 1), BAD);
    }

    private static void promise17Alter() {
        GrownSnapshots x = new GrownSnapshots();
        due.is("17 no part", x.alter(0, NONE, 0, 1), BAD);
        x.insert(0, 0, 3, 0x05FF80L);
        x.mark(0);
        due.is("17 turned", x.alter(0, NONE, 0, 255), 250);
        due.is("17 turned again", x.alter(0, NONE, 0, 3), 249);
        due.is("17 none turned", x.alter(0, NONE, 1, 0), 255);
        due.is("17 it is so", x.partByte(0, NONE, 0), 249);
        due.is("17 not the copy", x.partByte(0, 0, 0), 5);
        due.is("17 nor the state", x.state(0, 0), 5);
        due.is("17 the copy", x.alter(0, 0, 2, 129), 1);
        due.is("17 not the store", x.partByte(0, NONE, 2), 128);
        due.is("17 bits -1", x.alter(0, NONE, 0, -1), BAD);
        due.is("17 bits 256", x.alter(0, NONE, 0, 256), BAD);
        due.is("17 byte 3", x.alter(0, NONE, 3, 1), BAD);
        due.is("17 byte -1", x.alter(0, NONE, -1, 1), BAD);
        due.is("17 no copy", x.alter(0, 1, 0, 1), BAD);
        due.is("17 no task 2", x.alter(0, 2, 0, 1), BAD);
        due.is("17 no task -2", x.alter(0, -2, 0, 1), BAD);
        due.is("17 part 1", x.alter(1, NONE, 0, 1), BAD);
        due.is("17 part -1", x.alter(-1, NONE, 0, 1), BAD);
        due.is("17 part 120", x.alter(120, NONE, 0, 1), BAD);
        due.is("17 refused changes nothing", x.partByte(0, NONE, 0), 249);
        x.lose(0, NONE);
        due.is("17 lost", x.alter(0, NONE, 0, 1), BAD);
        due.is("17 the copy of a lost one", x.alter(0, 0, 2, 1), 0);
    }

    private static void promise18Lose() {
        GrownSnapshots x = new GrownSnapshots();
        due.is("18 no part", x.lose(0, NONE), BAD);
        Calls.addShort(x, 0, 1);
        Calls.addShort(x, 1, 1);
        x.mark(0);
        due.is("18 in the store", x.lose(0, NONE), 1);
        due.is("18 already", x.lose(0, NONE), BAD);
        due.is("18 it stays there", x.told(3), 1);
        due.is("18 with its bytes as made", x.told(4), 4);
        due.is("18 copies stay", x.partTold(0, 4), 2);
        due.is("18 a copy", x.lose(0, 1), 1);
        due.is("18 already, too", x.lose(0, 1), BAD);
        due.is("18 the other copy stays", x.partTold(0, 4), 1);
        due.is("18 no task 2", x.lose(0, 2), BAD);
        due.is("18 no task -2", x.lose(0, -2), BAD);
        due.is("18 part 1", x.lose(1, NONE), BAD);
        due.is("18 part -1", x.lose(-1, 0), BAD);
        due.is("18 part 120", x.lose(120, NONE), BAD);
        due.is("18 states stay", x.told(8), 8);
    }

    private static void promise19Told() {
        GrownSnapshots x = new GrownSnapshots();
        x.rescale(3);
        Calls.addShort(x, 0, 1);
        Calls.addShort(x, 2, 1);
        x.insert(2, 4, 2, 0x0909L);
        x.mark(0);
        x.mark(0);
        x.insert(1, 0, 1, 3L);
        x.mark(0);
        x.drop(1);
        x.extend(1, 5, 0, 0);
        x.lose(0, NONE);
        x.alter(1, NONE, 0, 8);
        x.alter(2, 1, 0, 8);
        int[] want = {3, 2, 3, 3, 7, 3, 2, 4, 16};
        for (int what = 0; what < want.length; what++) {
            due.is("19 told(" + what + ")", x.told(what), want[what]);
        }
        due.is("19 told(-1)", x.told(-1), BAD);
        due.is("19 told(9)", x.told(9), BAD);
        due.is("19 told(least)", x.told(Integer.MIN_VALUE), BAD);
        x.lose(2, 1);
        due.is("19 one copy less", x.told(7), 3);
        x.alter(1, NONE, 0, 8);
        due.is("19 one is itself again", x.told(6), 1);
    }
}
