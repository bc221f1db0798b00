/** Terms, "3. FILE SERVER": which slot an operation takes, what is written first, and what is given again. */
public final class TermsFileServerTest {
    private static final int[][] ORDERS = {{0, 1, 2}, {0, 2, 1}, {1, 0, 2}, {1, 2, 0}, {2, 0, 1}, {2, 1, 0}};

    public static void main(String[] args) {
        Due due = new Due();
        theLowestEmptySlot(due);
        for (int[] order : ORDERS) {
            for (int hits = 0; hits < 8; hits++) {
                theOneUsedLongestAgo(due, order, hits);
            }
            syncWritesTheLowestBlockFirst(due, order);
        }
        fillingUsesASlot(due);
        writingOutDoesNotUseASlot(due);
        aDirtySlotIsWrittenThoughOthersAreClean(due);
        aCleanSlotIsTakenThoughOthersAreDirty(due);
        syncWithNothingDirty(due);
        goesOnInTheTickOfTheAnswer(due);
        anEmptyLine(due);
        isGivenToEachNewDisk(due);
        anEmptySlotIsNotBlock0(due);
        due.end();
    }

    /** "let s be the lowest empty slot" */
    private static void theLowestEmptySlot(Due due) {
        for (int writes = 0; writes < 8; writes++) {
            RebornDrivers x = new RebornDrivers(20);
            for (int s = 0; s < 3; s++) {
                boolean write = (writes >> s & 1) == 1;
                due.slot("empty", x, s, -1, 0, 0);
                if (write) {
                    x.write(0, 9 - s, 90);
                    due.ticks("a write takes slot " + s, x, 1);
                } else {
                    x.read(0, 9 - s);
                    due.ticks("a read takes slot " + s, x, 0, 0, 0, 1);
                }
                due.slot("taken", x, s, 9 - s, write ? 90 : 0, write ? 1 : 0);
            }
        }
    }

    /**
     * "if there is none the one that was used longest ago": the slots are used in the order that is told, by a write
     * where a bit of writeHits is 1, else by a read; then a read and a write of other blocks take the first and the
     * second of them.
     */
    private static void theOneUsedLongestAgo(Due due, int[] order, int writeHits) {
        RebornDrivers x = cleanSlots(due);
        for (int i = 0; i < 3; i++) {
            if ((writeHits >> i & 1) == 1) {
                x.write(0, order[i], 7);
            } else {
                x.read(0, order[i]);
            }
            due.ticks("hit", x, 1);
        }
        String when = "order " + order[0] + order[1] + order[2] + ", write hits " + writeHits;
        boolean firstIsDirty = (writeHits & 1) == 1;
        x.read(1, 14);
        Situation.ticked(x, firstIsDirty ? 6 : 3);
        due.slot(when + ", being read", x, order[0], -1, 0, 0);
        due.ticks(when + ", read", x, 1);
        due.slot(when + ", read", x, order[0], 14, 0, 0);
        boolean secondIsDirty = (writeHits >> 1 & 1) == 1;
        x.write(1, 15, 4);
        Situation.ticked(x, secondIsDirty ? 3 : 0);
        due.slot(when + ", to be written", x, order[1], order[1], secondIsDirty ? 7 : 0, secondIsDirty ? 1 : 0);
        due.ticks(when + ", written", x, 1);
        due.slot(when + ", written", x, order[1], 15, 4, 1);
        due.is(when + ": the third stays", x.slot(order[2], 0), order[2]);
        due.is(when + ": the first was written out", x.device(order[0]), firstIsDirty ? 7 : 0);
        due.is(when + ": the second was written out", x.device(order[1]), secondIsDirty ? 7 : 0);
        due.is(when + ": the third was not", x.device(order[2]), 0);
    }

    /** Blocks 0, 1 and 2 in slots 0, 1 and 2, clean, used in this order. */
    private static RebornDrivers cleanSlots(Due due) {
        RebornDrivers x = new RebornDrivers(20);
        for (int b = 0; b < 3; b++) {
            x.read(0, b);
            due.ticks("fill", x, 0, 0, 0, 1);
        }
        return x;
    }

    /** "a slot is used by each operation that finds its block in it or puts its block into it" */
    private static void fillingUsesASlot(Due due) {
        RebornDrivers reads = cleanSlots(due);
        RebornDrivers writes = cleanSlots(due);
        for (int i = 0; i < 9; i++) {
            reads.read(0, 3 + i);
            due.ticks("a read fills a slot", reads, 0, 0, 0, 1);
            due.is("the slots are taken in turn", reads.slot(i % 3, 0), 3 + i);
            writes.write(0, 3 + i, i);
            Situation.ticked(writes, i < 3 ? 0 : 3);
            due.ticks("a write fills a slot", writes, 1);
            due.is("the slots are taken in turn", writes.slot(i % 3, 0), 3 + i);
        }
    }

    /** Neither a sync nor the request that makes a slot clean for another block is a use of it. */
    private static void writingOutDoesNotUseASlot(Due due) {
        RebornDrivers x = new RebornDrivers(20);
        x.write(0, 5, 50);
        x.write(1, 3, 30);
        x.write(2, 4, 40);
        x.sync(3);
        due.ticks("blocks 3, 4 and 5 are written", x, 1, 1, 1, 0, 0, 0, 0, 0, 0, 0, 0, 0, 1);
        x.write(0, 9, 90);
        due.ticks("slot 0 was used longest ago", x, 1);
        due.slot("slot 0 was used longest ago", x, 0, 9, 90, 1);
    }

    /** "If s is dirty: a request to write s to its block." */
    private static void aDirtySlotIsWrittenThoughOthersAreClean(Due due) {
        RebornDrivers x = new RebornDrivers(20);
        x.write(0, 15, 1);
        x.read(1, 1);
        x.read(2, 2);
        due.ticks("slot 0 is dirty, slots 1 and 2 are clean", x, 1, 0, 0, 0, 1, 0, 0, 0, 1);
        x.read(3, 0);
        due.ticks("slot 0 is written", x, 0, 0, 0);
        due.is("device(15)", x.device(15), 1);
        due.slot("slot 0 is dirty until the answer", x, 0, 15, 1, 1);
        due.ticks("block 0 is read", x, 0, 0, 0, 1);
        due.slot("block 0", x, 0, 0, 0, 0);
        due.is("slot(1, 0)", x.slot(1, 0), 1);
        due.is("slot(2, 0)", x.slot(2, 0), 2);
    }

    /** "Otherwise a read makes s empty ...; a write makes s hold the block" */
    private static void aCleanSlotIsTakenThoughOthersAreDirty(Due due) {
        for (int write = 0; write < 2; write++) {
            RebornDrivers x = new RebornDrivers(20);
            x.read(0, 0);
            x.write(1, 1, 10);
            x.write(2, 2, 20);
            due.ticks("slot 0 is clean, slots 1 and 2 are dirty", x, 0, 0, 0, 1, 1, 1);
            if (write == 1) {
                x.write(3, 15, 5);
                due.ticks("a write is done at once", x, 1);
                due.is("no request", x.request(0), 0);
            } else {
                x.read(3, 15);
                due.ticks("a read takes no more than itself", x, 0, 0, 0, 1);
            }
            due.slot("taken", x, 0, 15, write * 5, write);
            due.slot("not written", x, 1, 1, 10, 1);
            due.slot("not written", x, 2, 2, 20, 1);
            due.is("device(1)", x.device(1), 0);
        }
    }

    /** "SYNC: if a slot is dirty: a request to write the one of the lowest block to that" */
    private static void syncWritesTheLowestBlockFirst(Due due, int[] order) {
        int[] blocks = {0, 8, 15};
        RebornDrivers x = new RebornDrivers(20);
        for (int i = 0; i < 3; i++) {
            x.write(i, blocks[order[i]], 100 + order[i]);
        }
        x.sync(3);
        due.ticks("writes, then block 0", x, 1, 1, 1, 0, 0, 0);
        for (int i = 0; i < 3; i++) {
            for (int j = 0; j < 3; j++) {
                due.is("device(" + blocks[j] + ")", x.device(blocks[j]), j <= i ? 100 + j : 0);
                int slot = order[0] == j ? 0 : order[1] == j ? 1 : 2;
                due.slot("block " + blocks[j], x, slot, blocks[j], 100 + j, j < i ? 0 : 1);
            }
            due.is("pending", x.state(3), 1);
            if (i < 2) {
                due.ticks("the next block", x, 0, 0, 0);
            }
        }
        due.ticks("the last answer", x, 1);
        due.is("result(3)", x.result(3), 3);
    }

    /** "otherwise the operation is done": with no slot held, and with clean ones alone */
    private static void syncWithNothingDirty(Due due) {
        RebornDrivers x = new RebornDrivers(20);
        x.sync(0);
        due.ticks("all slots are empty", x, 1);
        due.is("request(0)", x.request(0), 0);
        RebornDrivers y = cleanSlots(due);
        y.sync(0);
        due.ticks("all slots are clean", y, 1);
        due.is("request(0)", y.request(0), 0);
        due.is("result(0)", y.result(0), 0);
    }

    /** "it has none any more"; "Then the operation at the head of its line ... is gone on with." */
    private static void goesOnInTheTickOfTheAnswer(Due due) {
        RebornDrivers x = new RebornDrivers(20);
        x.read(0, 1);
        x.read(1, 1);
        x.read(2, 2);
        due.ticks("block 1", x, 0, 0, 0);
        due.is("not answered: request(0)", x.request(0), 2);
        due.ticks("block 1", x, 1);
        due.is("answered: request(0)", x.request(0), 0);
        due.ticks("one operation a tick", x, 1);
        due.is("the next is not begun in the tick of the one before", x.request(0), 0);
        due.ticks("block 2", x, 0);
        due.is("given: request(0)", x.request(0), 2);
        due.is("given: driver(0, 2)", x.driver(0, 2), 0);
    }

    /** "the operation at the head of its line, if there is one" */
    private static void anEmptyLine(Due due) {
        RebornDrivers x = new RebornDrivers(20);
        x.write(0, 1, 10);
        due.ticks("one, then none", x, 1, 0, 0);
        due.is("line(0)", x.line(0), 0);
        due.is("request(0)", x.request(0), 0);
        due.slot("nothing is written without need", x, 0, 1, 10, 1);
    }

    /**
     * "If it has one that is not answered: if it was not given yet, or was given to another endpoint than the one
     * published for the disk, it is GIVEN; that is all for this tick": at each stage, many times.
     */
    private static void isGivenToEachNewDisk(Due due) {
        for (Work work : new Work[] {Work.READING, Work.WRITING}) {
            RebornDrivers x = work.at(0, 20);
            int deaths = 0;
            for (int i = 0; i < 30; i++) {
                int stage = i % 3;
                due.ticks(work + " to stage " + stage, x, new int[stage]);
                due.is(work + ": stage", x.driver(0, 2), stage);
                x.fault(0, 0);
                deaths++;
                due.ticks(work + " is given again", x, 0);
                due.driver(work + " is given again", x, 0, deaths, 0, 0, 0, 1);
                due.is(work + ": request(0)", x.request(0), 2);
                due.is(work + ": state(0)", x.state(0), 1);
            }
            due.ticks(work + " is done", x, 0, 0, 1);
            due.is(work + ": result(0)", x.result(0), work.result());
        }
    }

    private static void anEmptySlotIsNotBlock0(Due due) {
        RebornDrivers x = new RebornDrivers(20);
        x.read(0, 0);
        due.ticks("block 0 is not in the cache", x, 0);
        due.is("request(0)", x.request(0), 2);
        due.ticks("it is read", x, 0, 0, 1);
        due.slot("block 0", x, 0, 0, 0, 0);
    }
}
