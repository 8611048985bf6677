/**
 * The edges that promises 8 and 9 name, with what the terms say of marking, dropping and what is
 * held: one test for each sentence, which stands above it, and each answer is labelled with the
 * promise's number.
 */
public final class MarkEdgesTest {
    private static final int NONE = Calls.NONE;
    private static final int BAD = Calls.BAD;
    private static final int FULL = Calls.FULL;
    private static final int LEAST = Calls.LEAST;
    private static final int MOST = Calls.MOST;
    private static final Due due = new Due();

    public static void main(String[] args) {
        promise8WholeOrGrown();
        promise8UponTheLatestKept();
        promise8WholeIfNoneIsKept();
        promise8Numbers();
        promise8UpToTheLastCall();
        promise8NothingOfDroppedOnes();
        promise8TwelveAreHeld();
        promise8HeldButNotKept();
        promise8MoreThan120Parts();
        promise8MoreThan120PartsWithOldOnes();
        promise8MoreThan2400Bytes();
        promise8LostOnesCount();
        promise8NeitherPartsNorBytesForWhatIsThere();
        promise8BadAheadOfFull();
        promise8EmptyStates();
        promise8ListForEachTask();
        promise8EqualChunksOfOneMarking();
        promise8LeastPart();
        promise8BrokenPart();
        promise8DigestWhenItWasMade();
        promise8DigestsMeet();
        promise8JustItsBytes();
        promise8LeastNumberThatIsNotThere();
        promise8CopyInPlaceOfOneThere();
        promise8CopyAtItsTaskAlone();
        promise9NoneThatIsKept();
        promise9HowManyAreFreed();
        promise9InNoListOfAKeptMark();
        promise9BrokenOnesAreFreed();
        promise9NorAnyCopy();
        promise9BasesOfHeldOnes();
        promise9WholeOnesHoldNoBase();
        promise9WhatStays();
        due.end();
    }

    /** So many different chunks of four bytes, from a first one on, at tasks 0 and 1. */
    private static void setManyShorts(GrownSnapshots x, int from, int count) {
        x.remove(0, 0, Calls.size(x, 0));
        x.remove(1, 0, Calls.size(x, 1));
        for (int i = 0; i < count; i++) {
            x.insert(i < 75 ? 0 : 1, i < 75 ? 4 * i : 4 * (i - 75), 4, (long) (from + i) << 24);
        }
    }

    /** Marks of 75 parts that have all the 2400 bytes but some. */
    private static GrownSnapshots withBytesBut(int some) {
        GrownSnapshots x = Calls.withLongs(74);
        x.extend(3, 32 - some, 255, 0);
        x.mark(1);
        return x;
    }

    // "WHOLE (1) or GROWN (0 ..)"; "BAD".
    private static void promise8WholeOrGrown() {
        GrownSnapshots x = new GrownSnapshots();
        due.is("8 whole 2", x.mark(2), BAD);
        due.is("8 whole -1", x.mark(-1), BAD);
        due.is("8 whole least", x.mark(LEAST), BAD);
        due.is("8 whole greatest", x.mark(MOST), BAD);
        due.is("8 none was made", x.told(5), 0);
        x.mark(1);
        due.is("8 whole", x.mark(1), 1);
        due.is("8 so no base", x.markTold(1, 1), NONE);
        due.is("8 grown", x.mark(0), 2);
        due.is("8 so a base", x.markTold(2, 1), 1);
    }

    // "GROWN upon the latest one that is KEPT (its BASE)": not upon a later one that is held.
    private static void promise8UponTheLatestKept() {
        GrownSnapshots x = new GrownSnapshots();
        for (int i = 0; i < 4; i++) {
            x.mark(0);
        }
        x.drop(2);
        x.mark(0);
        due.is("8 the one just made", x.markTold(4, 1), 3);
        x.drop(3);
        x.drop(4);
        x.mark(0);
        due.is("8 over two that are dropped", x.markTold(5, 1), 1);
        x.back(0);
        x.mark(0);
        due.is("8 not upon what was gone back to", x.markTold(6, 1), 5);
        x.drop(5);
        x.mark(0);
        x.drop(6);
        due.is("8 held", x.markTold(6, 0), 0);
        x.drop(7);
        x.mark(0);
        due.is("8 not upon those that went with it", x.markTold(8, 1), 1);
    }

    // "(0; WHOLE, if no MARK is KEPT)".
    private static void promise8WholeIfNoneIsKept() {
        GrownSnapshots x = Calls.withShorts(1, 2);
        x.mark(0);
        due.is("8 the first", x.markTold(0, 1), NONE);
        due.is("8 tells all", x.markTold(0, 4), 2);
        x.mark(0);
        due.is("8 the second tells none", x.markTold(1, 4), 0);
        x.drop(0);
        x.drop(1);
        x.mark(0);
        due.is("8 none is kept again", x.markTold(2, 1), NONE);
        due.is("8 tells all again", x.markTold(2, 4), 2);
    }

    // "MARKS have numbers 0, 1, .. as they are made": one that is refused is not made.
    private static void promise8Numbers() {
        GrownSnapshots x = new GrownSnapshots();
        due.is("8 the first", x.mark(0), 0);
        x.mark(5);
        due.is("8 the next", x.mark(0), 1);
        x.drop(1);
        due.is("8 no number again", x.mark(0), 2);
        x.drop(0);
        x.drop(2);
        due.is("8 not when all are dropped", x.mark(0), 3);
        x.back(3);
        due.is("8 not when gone back", x.mark(0), 4);
        for (int i = 5; i < 14; i++) {
            due.is("8 up to twelve", x.mark(1), i);
        }
        x.mark(1);
        x.mark(1);
        x.drop(4);
        due.is("8 refused ones take no number", x.mark(1), 15);
    }

    // "An object is used for at most 512 calls": the last ones are answered like the first.
    private static void promise8UpToTheLastCall() {
        GrownSnapshots x = new GrownSnapshots();
        Calls.addShort(x, 0, 1);
        for (int i = 0; i < 255; i++) {
            due.is("8 mark " + i, x.mark(0), i);
            due.is("9 drop " + i, x.drop(i), 1);
        }
    }

    // A MARK that is made when others are gone has nothing of them: no base, tasks, bytes.
    private static void promise8NothingOfDroppedOnes() {
        GrownSnapshots x = new GrownSnapshots();
        x.rescale(4);
        for (int task = 0; task < 4; task++) {
            Calls.setShorts(x, task, task + 1);
        }
        x.mark(1);
        x.mark(0);
        x.drop(1);
        x.mark(1);
        due.is("8 no base of a dropped one", x.markTold(2, 1), NONE);
        due.is("8 no bytes of it", x.markTold(2, 5), 16);
        due.is("8 no parts of it", x.markTold(2, 3), 4);
        x.drop(2);
        x.rescale(2);
        Calls.setShorts(x, 0, 1);
        Calls.setShorts(x, 1, 9);
        x.mark(0);
        due.is("8 upon four, no tasks of a dropped one", x.markTold(3, 4), 1);
        x.rescale(4);
        Calls.setShorts(x, 0, 1);
        Calls.setShorts(x, 1, 9);
        Calls.setShorts(x, 2, 3);
        Calls.setShorts(x, 3, 4);
        x.mark(0);
        due.is("8 upon two, no tasks of a dropped one", x.markTold(4, 4), 2);
    }

    // "at most 12 are HELD"; "FULL: 12 are HELD already".
    private static void promise8TwelveAreHeld() {
        GrownSnapshots x = new GrownSnapshots();
        for (int i = 0; i < 12; i++) {
            due.is("8 mark " + i, x.mark(1), i);
        }
        due.is("8 the thirteenth, whole", x.mark(1), FULL);
        due.is("8 the thirteenth, grown", x.mark(0), FULL);
        due.is("8 twelve", x.told(2), 12);
        x.drop(5);
        due.is("8 room for one", x.mark(0), 12);
        due.is("8 and no more", x.mark(0), FULL);
        x.drop(11);
        due.is("8 a base is held on", x.mark(1), FULL);
        x.drop(12);
        due.is("8 both are gone", x.told(2), 10);
        due.is("8 one", x.mark(1), 13);
        due.is("8 another", x.mark(1), 14);
        due.is("8 full again", x.mark(1), FULL);
    }

    // "HELD are MARKS that are KEPT, and BASES of HELD ones": those count, too.
    private static void promise8HeldButNotKept() {
        GrownSnapshots x = new GrownSnapshots();
        for (int i = 0; i < 12; i++) {
            x.mark(0);
        }
        for (int i = 0; i < 11; i++) {
            x.drop(i);
        }
        due.is("8 one is kept", x.told(1), 1);
        due.is("8 twelve are held", x.told(2), 12);
        due.is("8 grown", x.mark(0), FULL);
        due.is("8 whole", x.mark(1), FULL);
        x.drop(11);
        due.is("8 none is held", x.told(2), 0);
        due.is("8 room again", x.mark(0), 12);
    }

    // "there would be more than 120 PARTS".
    private static void promise8MoreThan120Parts() {
        GrownSnapshots x = new GrownSnapshots();
        setManyShorts(x, 0, 121);
        due.is("8 121 parts", x.mark(0), FULL);
        due.is("8 none of them", x.told(3), 0);
        due.is("8 nor their copies", x.told(7), 0);
        due.is("8 nor their bytes", x.told(4), 0);
        x.remove(1, 0, 4);
        due.is("8 120 parts", x.mark(0), 0);
        due.is("8 all of them", x.told(3), 120);
        due.is("8 the last one", x.list(0, 1, 44), 119);
    }

    // The same with parts that are there before: what a refused marking found stays as it was.
    private static void promise8MoreThan120PartsWithOldOnes() {
        GrownSnapshots x = new GrownSnapshots();
        setManyShorts(x, 0, 100);
        x.mark(0);
        x.drop(0);
        setManyShorts(x, 50, 21);
        x.mark(0);
        x.alter(7, 0, 0, 255);
        int altered = x.partByte(7, 0, 0);
        setManyShorts(x, 50, 121);
        due.is("8 21 and 100 more", x.mark(0), FULL);
        due.is("8 21 stay", x.told(3), 21);
        due.is("8 with their bytes", x.told(4), 84);
        due.is("8 and their copies", x.told(7), 21);
        due.is("8 as they were", x.partByte(7, 0, 0), altered);
        due.is("8 no part behind them", x.partTold(21, 0), BAD);
        x.remove(1, 0, 4);
        due.is("8 21 and 99 more", x.mark(0), 2);
        due.is("8 the copy is replaced now", x.partByte(7, 0, 0), altered ^ 255);
    }

    // "more than 2400 bytes (of PARTS as they were made ..)".
    private static void promise8MoreThan2400Bytes() {
        GrownSnapshots x = withBytesBut(5);
        due.is("8 2395 bytes", x.told(4), 2395);
        int next = x.told(5);
        int copies = x.told(7);
        Calls.empty(x, 0);
        x.extend(0, 6, 253, 0);
        due.is("8 2401 bytes", x.mark(1), FULL);
        due.is("8 2395 stay", x.told(4), 2395);
        due.is("8 75 parts stay", x.told(3), 75);
        due.is("8 copies stay", x.told(7), copies);
        x.remove(0, 0, 1);
        due.is("8 2400 bytes", x.mark(1), next);
        due.is("8 all of them", x.told(4), 2400);
        x.extend(1, 1, 252, 0);
        due.is("8 one byte more", x.mark(1), FULL);
        x.drop(next);
        due.is("8 room again", x.told(4), 2395);
    }

    // "(.. LOST ones, too)".
    private static void promise8LostOnesCount() {
        GrownSnapshots x = withBytesBut(0);
        for (int part = 0; part < 75; part++) {
            x.lose(part, NONE);
        }
        due.is("8 all bytes, lost ones", x.told(4), 2400);
        Calls.empty(x, 3);
        x.extend(0, 1, 252, 0);
        due.is("8 no room for a byte", x.mark(1), FULL);
        GrownSnapshots y = new GrownSnapshots();
        setManyShorts(y, 0, 120);
        y.mark(0);
        setManyShorts(y, 0, 1);
        y.lose(0, NONE);
        due.is("8 no part in place of a lost one", y.mark(0), FULL);
        setManyShorts(y, 1, 1);
        due.is("8 one that is not lost", y.mark(0), 1);
    }

    // "there would be more": a full store takes what is there already.
    private static void promise8NeitherPartsNorBytesForWhatIsThere() {
        GrownSnapshots x = withBytesBut(0);
        int next = x.told(5);
        due.is("8 the same again", x.mark(0), next);
        Calls.empty(x, 2);
        due.is("8 less", x.mark(1), next + 1);
        due.is("8 as many bytes", x.told(4), 2400);
        GrownSnapshots y = new GrownSnapshots();
        setManyShorts(y, 0, 120);
        y.mark(0);
        due.is("8 120 parts again", y.mark(0), 1);
        due.is("8 as many parts", y.told(3), 120);
    }

    // "refusals, the first that is so: BAD ..; FULL".
    private static void promise8BadAheadOfFull() {
        GrownSnapshots x = new GrownSnapshots();
        setManyShorts(x, 0, 121);
        due.is("8 too many parts", x.mark(2), BAD);
        GrownSnapshots y = new GrownSnapshots();
        for (int i = 0; i < 12; i++) {
            y.mark(0);
        }
        due.is("8 too many marks", y.mark(-1), BAD);
        GrownSnapshots z = withBytesBut(0);
        z.extend(0, 1, 252, 0);
        due.is("8 too many bytes", z.mark(2), BAD);
    }

    // A STATE of 0 bytes has no CHUNKS, so its LIST no PARTS.
    private static void promise8EmptyStates() {
        GrownSnapshots x = new GrownSnapshots();
        due.is("8 of nothing", x.mark(0), 0);
        due.is("8 no parts", x.told(3), 0);
        due.is("8 no copies", x.told(7), 0);
        due.is("8 kept", x.told(1), 1);
        x.extend(1, 1, 9, 0);
        x.mark(0);
        due.is("8 nothing of task 0", x.list(1, 0, 0), NONE);
        due.is("8 one of task 1", x.list(1, 1, 0), 0);
    }

    // "Each has, for each TASK that there was, its LIST of PARTS in order".
    private static void promise8ListForEachTask() {
        for (int tasks = 1; tasks <= 4; tasks++) {
            GrownSnapshots x = new GrownSnapshots();
            x.rescale(tasks);
            for (int task = 0; task < tasks; task++) {
                Calls.setShorts(x, task, tasks - task, 9, tasks - task);
            }
            x.mark(0);
            for (int task = 0; task < tasks; task++) {
                int own = task == 0 ? 0 : task + 1;
                due.is("8 list of task " + task, Calls.list(x, 0, task), own + " 1 " + own);
            }
            due.is("8 none behind", x.list(0, tasks, 0), BAD);
        }
    }

    // "TASK by TASK, CHUNK by CHUNK": a part is found by the chunks behind, of all tasks.
    private static void promise8EqualChunksOfOneMarking() {
        GrownSnapshots x = new GrownSnapshots();
        x.extend(0, 300, 0, 0);
        x.extend(1, 300, 0, 0);
        x.mark(0);
        due.is("8 one part", x.told(3), 1);
        due.is("8 of four bytes", x.told(4), 4);
        due.is("8 75 times", x.list(0, 1, 74), 0);
        due.is("8 and no more", x.list(0, 1, 75), NONE);
        due.is("8 a copy each", x.told(7), 2);
    }

    // "the least PART that is not BROKEN": of two that are alike.
    private static void promise8LeastPart() {
        GrownSnapshots x = Calls.withShorts(1, 2);
        x.mark(1);
        x.alter(1, NONE, 0, 1);
        x.mark(1);
        due.is("8 another for the broken one", Calls.list(x, 1, 0), "0 2");
        x.alter(1, NONE, 0, 1);
        x.mark(1);
        due.is("8 the least of both", Calls.list(x, 2, 0), "0 1");
        x.lose(1, NONE);
        x.mark(1);
        due.is("8 the other one", Calls.list(x, 3, 0), "0 2");
        due.is("8 no third", x.told(3), 3);
    }

    // "it is BROKEN when it is LOST .., or its bytes have another DIGEST now".
    private static void promise8BrokenPart() {
        GrownSnapshots x = Calls.withShorts(1);
        x.mark(1);
        x.alter(0, NONE, 0, 3);
        // Its bytes are the chunk's now, but it was made with another digest.
        Calls.setShorts(x, 0, 2);
        x.mark(1);
        due.is("8 not by bytes it has now", Calls.list(x, 1, 0), "1");
        Calls.setShorts(x, 0, 1);
        x.mark(1);
        due.is("8 nor by bytes it had", Calls.list(x, 2, 0), "2");
        x.lose(2, NONE);
        x.mark(1);
        due.is("8 nor a lost one", Calls.list(x, 3, 0), "3");
        due.is("8 a copy does not help it", x.partTold(2, 4), 1);
    }

    // "the DIGEST that they had when it was made": a part with it is not broken, altered or not.
    private static void promise8DigestWhenItWasMade() {
        GrownSnapshots x = Calls.withShorts(1);
        x.mark(1);
        int digest = x.partTold(0, 1);
        x.alter(0, NONE, 0, 1 ^ 62);
        due.is("8 the digest stays", x.partTold(0, 1), digest);
        x.mark(1);
        due.is("8 not by bytes it had", Calls.list(x, 1, 0), "1");
        Calls.setShorts(x, 0, 62);
        x.mark(1);
        due.is("8 by bytes it has now", Calls.list(x, 2, 0), "0");
        due.is("8 a copy with these", x.partByte(0, 0, 0), 62);
    }

    // "found by small digests that may meet": other bytes are another part.
    private static void promise8DigestsMeet() {
        GrownSnapshots x = Calls.withShorts(1, 62, 123, 184, 245);
        x.mark(0);
        due.is("8 five parts", Calls.list(x, 0, 0), "0 1 2 3 4");
        for (int part = 1; part < 5; part++) {
            due.is("8 of one digest", x.partTold(part, 1), x.partTold(0, 1));
        }
        x.mark(1);
        due.is("8 each found again", Calls.list(x, 1, 0), "0 1 2 3 4");
    }

    // "and just its bytes": neither more nor fewer.
    private static void promise8JustItsBytes() {
        // 31 * 1 + 30 is 61, so the digest is 0 from there on, with noughts behind.
        for (int shorter = 0; shorter < 2; shorter++) {
            int longer = 1 - shorter;
            GrownSnapshots x = new GrownSnapshots();
            x.insert(shorter, 0, 1, 30L);
            x.insert(longer, 0, 2, 30L << 8);
            x.mark(0);
            due.is("8 the same digest", x.partTold(0, 1), x.partTold(1, 1));
            due.is("8 the shorter", x.list(0, shorter, 0), shorter);
            due.is("8 the longer", x.list(0, longer, 0), longer);
            x.insert(shorter, 1, 1, 0L);
            x.remove(longer, 1, 1);
            x.mark(0);
            due.is("8 the longer again", x.list(1, shorter, 0), longer);
            due.is("8 the shorter again", x.list(1, longer, 0), shorter);
            due.is("8 no third", x.told(3), 2);
        }
    }

    // "a new PART: the least number that is not there".
    private static void promise8LeastNumberThatIsNotThere() {
        GrownSnapshots x = Calls.withShorts(1, 2, 3, 4);
        x.mark(1);
        Calls.setShorts(x, 0, 2, 4);
        x.mark(1);
        due.is("8 two are freed", x.drop(0), 2);
        Calls.setShorts(x, 0, 5, 4, 6, 7);
        x.mark(1);
        due.is("8 0, 2 and then 4", Calls.list(x, 2, 0), "0 3 2 4");
        due.is("8 bytes of the new one", x.partByte(0, NONE, 0), 5);
        x.lose(1, NONE);
        Calls.setShorts(x, 0, 8);
        x.mark(1);
        due.is("8 a lost one is there", Calls.list(x, 3, 0), "5");
    }

    // "The TASK has a COPY .. then, with these bytes (in place of one there)".
    private static void promise8CopyInPlaceOfOneThere() {
        GrownSnapshots x = Calls.withShorts(1);
        x.mark(0);
        x.alter(0, 0, 0, 128);
        x.mark(0);
        due.is("8 of a broken one", x.partByte(0, 0, 0), 1);
        x.alter(0, 0, 0, 1 ^ 62);
        x.mark(0);
        due.is("8 of one with the same digest", x.partByte(0, 0, 0), 1);
        x.lose(0, 0);
        x.mark(0);
        due.is("8 of none", x.partByte(0, 0, 0), 1);
        due.is("8 one copy", x.told(7), 1);
    }

    // "The TASK has a COPY": no other one gets it, and what others have stays.
    private static void promise8CopyAtItsTaskAlone() {
        GrownSnapshots x = Calls.withShorts(1);
        Calls.setShorts(x, 1, 1);
        x.mark(0);
        x.alter(0, 1, 0, 128);
        Calls.empty(x, 1);
        x.mark(0);
        due.is("8 the other's stays", x.partByte(0, 1, 0), 129);
        x.rescale(3);
        Calls.setShorts(x, 0, 1);
        Calls.empty(x, 1);
        Calls.empty(x, 2);
        x.mark(0);
        due.is("8 the third gets none", x.partByte(0, 2, 0), BAD);
    }

    // "BAD: .. (a MARK: none that is KEPT)".
    private static void promise9NoneThatIsKept() {
        GrownSnapshots x = new GrownSnapshots();
        due.is("9 none made", x.drop(0), BAD);
        x.mark(0);
        x.mark(0);
        due.is("9 the next one", x.drop(2), BAD);
        due.is("9 -1", x.drop(-1), BAD);
        due.is("9 least", x.drop(LEAST), BAD);
        due.is("9 greatest", x.drop(MOST), BAD);
        due.is("9 both are kept", x.told(1), 2);
        x.drop(0);
        due.is("9 held, not kept", x.drop(0), BAD);
        x.drop(1);
        due.is("9 not held", x.drop(0), BAD);
        due.is("9 nor this", x.drop(1), BAD);
    }

    // "how many PARTS are FREED".
    private static void promise9HowManyAreFreed() {
        GrownSnapshots x = new GrownSnapshots();
        x.mark(0);
        due.is("9 of no parts", x.drop(0), 0);
        setManyShorts(x, 0, 120);
        x.mark(0);
        due.is("9 all 120", x.drop(1), 120);
        due.is("9 none there", x.told(3), 0);
        due.is("9 no bytes", x.told(4), 0);
        x.remove(0, 0, 300);
        x.remove(1, 0, 180);
        x.extend(0, 300, 0, 0);
        x.extend(1, 300, 0, 0);
        x.mark(0);
        due.is("9 one that is named often", x.drop(2), 1);
    }

    // "PARTS that are in no LIST of a MARK that is KEPT are FREED".
    private static void promise9InNoListOfAKeptMark() {
        GrownSnapshots x = Calls.withShorts(1, 2, 3);
        x.mark(0);
        Calls.setShorts(x, 0, 2);
        Calls.setShorts(x, 1, 3);
        x.mark(0);
        due.is("9 a held one's, too", x.drop(0), 1);
        due.is("9 it is held", x.markTold(0, 0), 0);
        due.is("9 in no list", x.partTold(0, 0), BAD);
        due.is("9 in the first list", x.partTold(1, 0), 4);
        due.is("9 in the second list", x.partTold(2, 0), 4);
        Calls.setShorts(x, 1, 2);
        Calls.empty(x, 0);
        x.mark(0);
        due.is("9 in a later one's list", x.drop(1), 1);
        due.is("9 of the other task", x.partTold(1, 0), 4);
        Calls.empty(x, 1);
        x.mark(0);
        due.is("9 a later one frees nothing", x.drop(3), 0);
        due.is("9 an earlier one has it", x.partTold(1, 2), 1);
    }

    // LOST and altered ones are there, so they are freed like others.
    private static void promise9BrokenOnesAreFreed() {
        GrownSnapshots x = Calls.withShorts(1, 2, 3);
        x.mark(0);
        x.lose(0, NONE);
        x.alter(1, NONE, 0, 1);
        x.lose(2, NONE);
        x.lose(2, 0);
        due.is("9 three", x.drop(0), 3);
        due.is("9 none is broken", x.told(6), 0);
        x.mark(0);
        due.is("9 the number is not lost", x.partTold(0, 3), 0);
        due.is("9 nor altered", x.partByte(1, NONE, 0), 2);
    }

    // "it is there no more, nor any COPY of it": a new part of that number has its own alone.
    private static void promise9NorAnyCopy() {
        GrownSnapshots x = new GrownSnapshots();
        x.rescale(4);
        for (int task = 0; task < 4; task++) {
            Calls.setShorts(x, task, 1);
        }
        x.mark(0);
        due.is("9 four copies", x.told(7), 4);
        x.drop(0);
        due.is("9 no copies", x.told(7), 0);
        due.is("9 no byte", x.partByte(0, 3, 0), BAD);
        due.is("9 none to lose", x.lose(0, 3), BAD);
        for (int task = 0; task < 4; task++) {
            Calls.empty(x, task);
        }
        Calls.setShorts(x, 2, 7);
        x.mark(0);
        due.is("9 one copy of the new one", x.partTold(0, 4), 1);
        due.is("9 at its task", x.partByte(0, 2, 0), 7);
        due.is("9 none where the old one had some", x.partByte(0, 3, 0), BAD);
    }

    // "HELD are MARKS that are KEPT, and BASES of HELD ones".
    private static void promise9BasesOfHeldOnes() {
        GrownSnapshots x = new GrownSnapshots();
        for (int i = 0; i < 4; i++) {
            x.mark(0);
        }
        x.drop(1);
        due.is("9 a base", x.told(2), 4);
        x.drop(0);
        due.is("9 a base of one that is held alone", x.told(2), 4);
        due.is("9 two are kept", x.told(1), 2);
        x.drop(3);
        due.is("9 the last one is no base", x.told(2), 3);
        due.is("9 it is gone", x.markTold(3, 0), BAD);
        x.drop(2);
        due.is("9 then all go", x.told(2), 0);
        due.is("9 the first, too", x.markTold(0, 0), BAD);
        GrownSnapshots y = new GrownSnapshots();
        y.mark(0);
        y.mark(0);
        y.drop(1);
        y.mark(0);
        y.drop(0);
        due.is("9 a base of another", y.told(2), 2);
        due.is("9 held", y.markTold(0, 0), 0);
        due.is("9 the one between is gone", y.markTold(1, 0), BAD);
    }

    // "A MARK is WHOLE: it tells all LISTS": so nothing below it is held for it.
    private static void promise9WholeOnesHoldNoBase() {
        GrownSnapshots x = new GrownSnapshots();
        x.mark(0);
        x.mark(0);
        x.mark(1);
        x.mark(0);
        x.drop(0);
        due.is("9 a base of the second", x.told(2), 4);
        x.drop(1);
        due.is("9 both go", x.told(2), 2);
        x.drop(2);
        due.is("9 the whole one is held", x.markTold(2, 0), 0);
        x.drop(3);
        due.is("9 none", x.told(2), 0);
    }

    // DROPPING changes the mark and parts: not states, tasks, numbers, other marks.
    private static void promise9WhatStays() {
        GrownSnapshots x = Calls.withShorts(1, 2);
        x.mark(0);
        Calls.setShorts(x, 0, 2);
        x.mark(0);
        x.drop(0);
        due.is("9 states", Calls.bytes(x, 0), "2 0 0 0");
        due.is("9 tasks", x.told(0), 2);
        due.is("9 the next number", x.told(5), 2);
        due.is("9 the other's base", x.markTold(1, 1), 0);
        due.is("9 the other's list", Calls.list(x, 1, 0), "1");
        due.is("9 copies of what stays", x.partByte(1, 0, 0), 2);
        due.is("9 bytes of what stays", x.told(4), 4);
    }
}
