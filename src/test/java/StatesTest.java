/** Promises 1 to 7. */
public final class StatesTest {
    private static final int NONE = Calls.NONE;
    private static final int BAD = Calls.BAD;
    private static final int FULL = Calls.FULL;
    private static final Due due = new Due();

    public static void main(String[] args) {
        promise1NewObject();
        promise2Insert();
        promise2InsertRefused();
        promise3Remove();
        promise4Extend();
        promise5State();
        promise6Chunk();
        promise6ChunkEdges();
        promise7Rescale();
        promise7RescaleRefused();
        promise7RescaleCopies();
        due.end();
    }

    private static void bytesAre(String call, GrownSnapshots x, int task, String want) {
        due.is(call, Calls.bytes(x, task), want);
    }

    private static void promise1NewObject() {
        GrownSnapshots x = new GrownSnapshots();
        int[] want = {2, 0, 0, 0, 0, 0, 0, 0, 0};
        for (int what = 0; what < want.length; what++) {
            due.is("1 told(" + what + ")", x.told(what), want[what]);
        }
        due.is("1 task 0 is empty", Calls.size(x, 0), 0);
        due.is("1 task 1 is empty", Calls.size(x, 1), 0);
        due.is("1 no task 2", Calls.size(x, 2), BAD);
        due.is("1 no mark", x.markTold(0, 0), BAD);
        due.is("1 no part", x.partTold(0, 0), BAD);
    }

    private static void promise2Insert() {
        GrownSnapshots x = new GrownSnapshots();
        due.is("2 highest first", x.insert(0, 0, 3, 0x7F010203L), 3);
        bytesAre("2 highest first", x, 0, "1 2 3");
        due.is("2 ahead of byte 1", x.insert(0, 1, 2, 0xFFFEL), 5);
        bytesAre("2 ahead of byte 1", x, 0, "1 255 254 2 3");
        due.is("2 behind all", x.insert(0, 5, 1, -1L), 6);
        due.is("2 eight bytes", x.insert(0, 0, 8, 0x8070605040302010L), 14);
        bytesAre("2 eight bytes", x, 0, "128 112 96 80 64 48 32 16 1 255 254 2 3 255");
        due.is("2 no bytes", x.insert(0, 14, 0, 5L), 14);
        due.is("2 the other task", x.insert(1, 0, 1, 9L), 1);
        bytesAre("2 the other task", x, 1, "9");
    }

    private static void promise2InsertRefused() {
        GrownSnapshots x = new GrownSnapshots();
        due.is("2 task -1", x.insert(-1, 0, 1, 0L), BAD);
        due.is("2 task 2", x.insert(2, 0, 1, 0L), BAD);
        due.is("2 n -1", x.insert(0, 0, -1, 0L), BAD);
        due.is("2 n 9", x.insert(0, 0, 9, 0L), BAD);
        due.is("2 at -1", x.insert(0, -1, 1, 0L), BAD);
        due.is("2 at above size", x.insert(0, 1, 0, 0L), BAD);
        due.is("2 at greatest", x.insert(0, Integer.MAX_VALUE, 8, 0L), BAD);
        x.extend(0, 297, 0, 0);
        due.is("2 BAD ahead of FULL", x.insert(0, 298, 4, 0L), BAD);
        due.is("2 above 300", x.insert(0, 0, 4, 0L), FULL);
        due.is("2 nothing changed", Calls.size(x, 0), 297);
        due.is("2 just 300", x.insert(0, 297, 3, 0x010203L), 300);
        due.is("2 last byte", x.state(0, 299), 3);
        due.is("2 none into 300", x.insert(0, 300, 0, 0L), 300);
        due.is("2 one into 300", x.insert(0, 300, 1, 0L), FULL);
    }

    private static void promise3Remove() {
        GrownSnapshots x = new GrownSnapshots();
        x.extend(0, 10, 0, 1);
        due.is("3 in the midst", x.remove(0, 2, 3), 7);
        bytesAre("3 in the midst", x, 0, "0 1 5 6 7 8 9");
        due.is("3 none", x.remove(0, 7, 0), 7);
        due.is("3 not so many", x.remove(0, 5, 3), BAD);
        due.is("3 very many", x.remove(0, 5, Integer.MAX_VALUE), BAD);
        due.is("3 n -1", x.remove(0, 5, -1), BAD);
        due.is("3 at -1", x.remove(0, -1, 1), BAD);
        due.is("3 at behind the end", x.remove(0, 8, 0), BAD);
        due.is("3 task -1", x.remove(-1, 0, 0), BAD);
        due.is("3 task 2", x.remove(2, 0, 0), BAD);
        bytesAre("3 refused changes nothing", x, 0, "0 1 5 6 7 8 9");
        due.is("3 the last", x.remove(0, 6, 1), 6);
        due.is("3 all", x.remove(0, 0, 6), 0);
        due.is("3 none of none", x.remove(0, 0, 0), 0);
    }

    private static void promise4Extend() {
        GrownSnapshots x = new GrownSnapshots();
        due.is("4 steps", x.extend(1, 4, 250, 3), 4);
        bytesAre("4 steps", x, 1, "250 253 0 3");
        due.is("4 behind, downwards", x.extend(1, 3, 1, -1), 7);
        bytesAre("4 behind, downwards", x, 1, "250 253 0 3 1 0 255");
        due.is("4 wraps", x.extend(1, 3, Integer.MAX_VALUE, Integer.MAX_VALUE), 10);
        bytesAre("4 wraps", x, 1, "250 253 0 3 1 0 255 255 254 253");
        due.is("4 none", x.extend(1, 0, 0, 0), 10);
        due.is("4 n -1", x.extend(1, -1, 0, 0), BAD);
        due.is("4 n 301", x.extend(1, 301, 0, 0), BAD);
        due.is("4 task -1", x.extend(-1, 0, 0, 0), BAD);
        due.is("4 task 2", x.extend(2, 0, 0, 0), BAD);
        due.is("4 above 300", x.extend(1, 291, 0, 0), FULL);
        due.is("4 nothing changed", Calls.size(x, 1), 10);
        due.is("4 just 300", x.extend(1, 290, 0, 0), 300);
        due.is("4 none into 300", x.extend(1, 0, 0, 0), 300);
        due.is("4 300 at once", x.extend(0, 300, 1, 1), 300);
        due.is("4 the last one", x.state(0, 299), 300 & 255);
    }

    private static void promise5State() {
        GrownSnapshots x = new GrownSnapshots();
        x.insert(1, 0, 3, 0x00FF80L);
        due.is("5 byte 0", x.state(1, 0), 0);
        due.is("5 byte 1", x.state(1, 1), 255);
        due.is("5 byte 2", x.state(1, 2), 128);
        due.is("5 byte 3", x.state(1, 3), BAD);
        due.is("5 byte -1", x.state(1, -1), BAD);
        due.is("5 an empty state", x.state(0, 0), BAD);
        due.is("5 task -1", x.state(-1, 0), BAD);
        due.is("5 task 2", x.state(2, 0), BAD);
        due.is("5 far away", x.state(1, Integer.MAX_VALUE), BAD);
        x.remove(1, 2, 1);
        due.is("5 a byte that went", x.state(1, 2), BAD);
    }

    private static void promise6Chunk() {
        GrownSnapshots x = new GrownSnapshots();
        due.is("6 none of an empty state", x.chunk(0, NONE), 0);
        due.is("6 first of none", x.chunk(0, 0), BAD);
        // 3 * 1 + 5 * 2 + 7 * 6 is 55: the order of the three bytes tells.
        x.insert(0, 0, 4, 0x09010206L);
        x.insert(0, 4, 4, 0x09060201L);
        x.insert(0, 8, 2, 0x0101L);
        due.is("6 how many", x.chunk(0, NONE), 2);
        due.is("6 first", x.chunk(0, 0), 4);
        due.is("6 second", x.chunk(0, 1), 6);
        due.is("6 third", x.chunk(0, 2), BAD);
        due.is("6 i -2", x.chunk(0, -2), BAD);
        due.is("6 i greatest", x.chunk(0, Integer.MAX_VALUE), BAD);
        due.is("6 task -1", x.chunk(-1, NONE), BAD);
        due.is("6 task 2", x.chunk(2, NONE), BAD);
    }

    private static void promise6ChunkEdges() {
        GrownSnapshots x = new GrownSnapshots();
        x.extend(0, 3, 0, 0);
        due.is("6 three bytes are one", x.chunk(0, NONE), 1);
        due.is("6 three bytes", x.chunk(0, 0), 3);
        x.extend(0, 6, 0, 0);
        due.is("6 nine noughts are three", x.chunk(0, NONE), 3);
        due.is("6 the fourth ends it", x.chunk(0, 0), 4);
        due.is("6 the rest", x.chunk(0, 2), 1);
        x.extend(1, 64, 7, 0);
        due.is("6 just two of 32", x.chunk(1, NONE), 2);
        due.is("6 32 at most", x.chunk(1, 0), 32);
        x.extend(1, 1, 7, 0);
        due.is("6 one more", x.chunk(1, NONE), 3);
        due.is("6 of one byte", x.chunk(1, 2), 1);
        Calls.empty(x, 0);
        x.extend(0, 300, 0, 0);
        due.is("6 the most chunks", x.chunk(0, NONE), 75);
        due.is("6 the last of the most", x.chunk(0, 74), 4);
        due.is("6 none behind it", x.chunk(0, 75), BAD);
    }

    private static void promise7Rescale() {
        GrownSnapshots x = new GrownSnapshots();
        x.extend(0, 4, 0, 1);
        x.extend(1, 6, 4, 1);
        due.is("7 two to three", x.rescale(3), 2);
        due.is("7 tasks", x.told(0), 3);
        bytesAre("7 first of three", x, 0, "0 1 2");
        bytesAre("7 second of three", x, 1, "3 4 5");
        bytesAre("7 third of three", x, 2, "6 7 8 9");
        due.is("7 three to four", x.rescale(4), 3);
        bytesAre("7 first of four", x, 0, "0 1");
        bytesAre("7 second of four", x, 1, "2 3 4");
        bytesAre("7 third of four", x, 2, "5 6");
        bytesAre("7 fourth of four", x, 3, "7 8 9");
        due.is("7 as many again", x.rescale(4), 4);
        due.is("7 four to one", x.rescale(1), 4);
        bytesAre("7 one", x, 0, "0 1 2 3 4 5 6 7 8 9");
        due.is("7 no task 1 any more", x.state(1, 0), BAD);
        x.remove(0, 1, 9);
        due.is("7 one byte for four", x.rescale(4), 1);
        bytesAre("7 nothing for the first", x, 0, "");
        bytesAre("7 all for the last", x, 3, "0");
    }

    private static void promise7RescaleRefused() {
        GrownSnapshots x = new GrownSnapshots();
        due.is("7 none", x.rescale(0), BAD);
        due.is("7 less", x.rescale(-1), BAD);
        due.is("7 five", x.rescale(5), BAD);
        due.is("7 least", x.rescale(Integer.MIN_VALUE), BAD);
        x.rescale(3);
        x.extend(0, 300, 1, 1);
        x.extend(1, 300, 2, 1);
        due.is("7 600 for two", x.rescale(2), 3);
        x.rescale(3);
        x.extend(2, 1, 5, 0);
        due.is("7 601 for two", x.rescale(2), FULL);
        due.is("7 601 for one", x.rescale(1), FULL);
        due.is("7 tasks stay", x.told(0), 3);
        due.is("7 states stay", Calls.size(x, 2), 201);
        due.is("7 601 for four", x.rescale(4), 3);
        due.is("7 the last of four", Calls.size(x, 3), 151);
    }

    private static void promise7RescaleCopies() {
        GrownSnapshots x = new GrownSnapshots();
        x.extend(0, 8, 0, 0);
        x.extend(1, 4, 0, 0);
        x.mark(0);
        due.is("7 both have a copy", x.partTold(0, 4), 2);
        x.rescale(4);
        due.is("7 those that are more have none", x.told(7), 2);
        due.is("7 so no byte", x.partByte(0, 3, 0), BAD);
        x.rescale(1);
        due.is("7 those of task 1 went", x.told(7), 1);
        due.is("7 task 1 is not there", x.partByte(0, 1, 0), BAD);
        x.rescale(2);
        due.is("7 they do not come again", x.told(7), 1);
        due.is("7 task 1 has none", x.partByte(0, 1, 0), BAD);
        due.is("7 task 0 has its own", x.partByte(0, 0, 0), 0);
        x.rescale(1);
        due.is("7 all copies of 0 stay", x.told(7), 1);
    }
}
