/** Promise 3: write. */
public final class Promise03WriteTest {
    public static void main(String[] args) {
        Due due = new Due();
        fillsTheLowestEmptySlot(due);
        overwritesAHeldBlock(due);
        makesACleanSlotDirty(due);
        writesADirtySlotFirst(due);
        usesTheSlot(due);
        takesACleanSlotAtOnce(due);
        Beginning.isForUsersAlone(due, "write to block 0", (x, u) -> x.write(u, 0, 1));
        Beginning.isForUsersAlone(due, "write to block 15", (x, u) -> x.write(u, 15, -1));
        Beginning.isForBlocksAlone(due, "write of 8", (x, u, b) -> x.write(u, b, 8));
        Beginning.waitsForTheEnd(due, "write to block 4", (x, u) -> x.write(u, 4, 40));
        anIntOfAnySizeIsWritten(due);
        due.end();
    }

    private static void fillsTheLowestEmptySlot(Due due) {
        RebornDrivers x = new RebornDrivers(20);
        due.taken("write(0, 15, MIN)", x.write(0, 15, Integer.MIN_VALUE));
        due.taken("write(3, 0, MAX)", x.write(3, 0, Integer.MAX_VALUE));
        due.is("line(0)", x.line(0), 2);
        due.ticks("two writes", x, 1, 1, 0);
        due.slot("first", x, 0, 15, Integer.MIN_VALUE, 1);
        due.slot("second", x, 1, 0, Integer.MAX_VALUE, 1);
        due.slot("third", x, 2, -1, 0, 0);
        due.is("nothing on the device", x.device(15), 0);
        due.is("no request", x.request(0), 0);
    }

    private static void overwritesAHeldBlock(Due due) {
        RebornDrivers x = new RebornDrivers(20);
        x.write(0, 4, 1);
        x.write(1, 4, 2);
        x.read(2, 4);
        x.write(3, 4, 3);
        due.ticks("in the order of the line", x, 1, 1);
        due.slot("second write", x, 0, 4, 2, 1);
        due.ticks("in the order of the line", x, 1, 1);
        due.is("the read stands between the writes", x.result(2), 2);
        due.slot("last write", x, 0, 4, 3, 1);
        due.slot("no other slot", x, 1, -1, 0, 0);
    }

    private static void makesACleanSlotDirty(Due due) {
        RebornDrivers x = new RebornDrivers(20);
        x.read(0, 2);
        due.ticks("read", x, 0, 0, 0, 1);
        x.write(0, 2, 9);
        due.ticks("write", x, 1);
        due.slot("dirty now", x, 0, 2, 9, 1);
        due.is("device(2)", x.device(2), 0);
    }

    private static void writesADirtySlotFirst(Due due) {
        RebornDrivers x = new RebornDrivers(20);
        for (int u = 0; u < 3; u++) {
            x.write(u, 10 + u, 50 + u);
        }
        due.ticks("three dirty slots", x, 1, 1, 1);
        x.write(3, 1, 99);
        due.ticks("slot 0 is written", x, 0, 0, 0);
        due.is("device(10)", x.device(10), 50);
        due.slot("still the old block", x, 0, 10, 50, 1);
        due.ticks("then taken", x, 1);
        due.slot("the new block", x, 0, 1, 99, 1);
        due.is("device(1)", x.device(1), 0);
        due.is("request(0)", x.request(0), 0);
    }

    /** A write that finds its block uses the slot, and so does one that puts its block into it. */
    private static void usesTheSlot(Due due) {
        RebornDrivers x = new RebornDrivers(20);
        for (int u = 0; u < 3; u++) {
            x.write(u, u, u);
        }
        x.write(3, 0, 7);
        due.ticks("slot 1 is the oldest now", x, 1, 1, 1, 1);
        x.write(0, 8, 80);
        due.ticks("slot 1 is written and taken", x, 0, 0, 0, 1);
        due.slot("slot 0 stays", x, 0, 0, 7, 1);
        due.slot("slot 1 is taken", x, 1, 8, 80, 1);
        x.write(0, 9, 90);
        due.ticks("slot 2 is written and taken", x, 0, 0, 0, 1);
        due.slot("slot 2 is taken", x, 2, 9, 90, 1);
        x.write(0, 10, 100);
        due.ticks("slot 0 is written and taken", x, 0, 0, 0, 1);
        due.slot("slot 0 is taken", x, 0, 10, 100, 1);
        due.is("device(0)", x.device(0), 7);
    }

    private static void takesACleanSlotAtOnce(Due due) {
        RebornDrivers x = new RebornDrivers(20);
        for (int b = 0; b < 3; b++) {
            x.read(0, b);
            due.ticks("fill", x, 0, 0, 0, 1);
        }
        x.write(0, 7, 70);
        due.ticks("at once", x, 1);
        due.slot("slot 0", x, 0, 7, 70, 1);
    }

    /** "BLOCKS 0 .. 15 are ints": no value is refused, and each stands in the slot and on the device as it is. */
    private static void anIntOfAnySizeIsWritten(Due due) {
        for (int v : Edges.VALUES) {
            RebornDrivers x = new RebornDrivers(20);
            due.taken("write(0, 0, " + v + ")", x.write(0, 0, v));
            due.ticks("write(0, 0, " + v + ")", x, 1);
            due.is("result(0)", x.result(0), 0);
            due.slot("write(0, 0, " + v + ")", x, 0, 0, v, 1);
            due.taken("the same once more", x.write(0, 0, v));
            x.sync(1);
            due.ticks("written", x, 1, 0, 0, 0, 1);
            due.slot("written", x, 0, 0, v, 0);
            due.is("device(0)", x.device(0), v);
            x.write(0, 0, v);
            due.ticks("a value that it has already makes a slot dirty too", x, 1);
            due.slot("the same value", x, 0, 0, v, 1);
        }
    }
}
