/** Promise 2: read. */
public final class Promise02ReadTest {
    public static void main(String[] args) {
        Due due = new Due();
        missThenHit(due);
        replacesTheSlotUsedLongestAgo(due);
        writesADirtySlotFirst(due);
        survivesARestart(due);
        Beginning.isForUsersAlone(due, "read of block 0", (x, u) -> x.read(u, 0));
        Beginning.isForUsersAlone(due, "read of block 15", (x, u) -> x.read(u, 15));
        Beginning.isForBlocksAlone(due, "read", (x, u, b) -> x.read(u, b));
        Beginning.waitsForTheEnd(due, "read of block 4", (x, u) -> x.read(u, 4));
        eachBlockHasItsOwnValue(due);
        anIntOfAnySizeIsRead(due);
        due.end();
    }

    private static void missThenHit(Due due) {
        RebornDrivers x = new RebornDrivers(20);
        due.taken("read(0, 9)", x.read(0, 9));
        due.is("begun: line(0)", x.line(0), 1);
        due.is("begun: request(0)", x.request(0), 0);
        due.ticks("miss", x, 0);
        due.is("miss: request(0)", x.request(0), 2);
        due.is("miss: driver(0, 2)", x.driver(0, 2), 0);
        due.slot("miss", x, 0, -1, 0, 0);
        due.ticks("miss goes on", x, 0, 0);
        due.slot("miss, stage 2", x, 0, -1, 0, 0);
        due.ticks("miss ends", x, 1);
        due.is("state(0)", x.state(0), 2);
        due.is("request(0)", x.request(0), 0);
        due.slot("miss is done", x, 0, 9, 0, 0);

        due.taken("read(1, 9)", x.read(1, 9));
        due.ticks("hit", x, 1);
        due.is("hit: request(0)", x.request(0), 0);
        due.slot("another slot stays empty", x, 1, -1, 0, 0);
    }

    private static void replacesTheSlotUsedLongestAgo(Due due) {
        RebornDrivers x = new RebornDrivers(20);
        for (int b = 1; b <= 3; b++) {
            x.read(0, b);
            due.ticks("fill " + b, x, 0, 0, 0, 1);
            due.slot("fill", x, b - 1, b, 0, 0);
        }
        x.read(0, 1);
        due.ticks("hit of slot 0", x, 1);
        x.read(0, 4);
        due.ticks("slot 1 is the oldest", x, 0);
        due.slot("it is emptied", x, 1, -1, 0, 0);
        due.ticks("slot 1 is filled", x, 0, 0, 1);
        due.slot("slot 0 stays", x, 0, 1, 0, 0);
        due.slot("slot 1 is new", x, 1, 4, 0, 0);
        due.slot("slot 2 stays", x, 2, 3, 0, 0);
        x.read(0, 5);
        due.ticks("slot 2 is the oldest", x, 0, 0, 0, 1);
        due.slot("slot 2 is new", x, 2, 5, 0, 0);
        x.read(0, 6);
        due.ticks("slot 0 is the oldest", x, 0, 0, 0, 1);
        due.slot("slot 0 is new", x, 0, 6, 0, 0);
    }

    private static void writesADirtySlotFirst(Due due) {
        RebornDrivers x = new RebornDrivers(20);
        for (int u = 0; u < 3; u++) {
            x.write(u, 5 + u, -100 - u);
        }
        due.ticks("three dirty slots", x, 1, 1, 1);
        x.read(3, 0);
        due.ticks("slot 0 is written", x, 0, 0, 0);
        due.is("device(5)", x.device(5), -100);
        due.slot("still dirty until answered", x, 0, 5, -100, 1);
        due.ticks("block 0 is read", x, 0);
        due.slot("emptied", x, 0, -1, 0, 0);
        due.is("request(0)", x.request(0), 2);
        due.ticks("block 0 is read", x, 0, 0, 1);
        due.slot("block 0", x, 0, 0, 0, 0);

        x.read(3, 5);
        due.ticks("slot 1 is written, block 5 read", x, 0, 0, 0, 0, 0, 0, 1);
        due.slot("block 5 is back", x, 1, 5, -100, 0);
        due.is("result(3)", x.result(3), -100);
        due.is("device(6)", x.device(6), -101);
        due.is("device(7)", x.device(7), 0);
    }

    /** Whatever the stage at which the disk dies, the request is given to the new one, and the read is done. */
    private static void survivesARestart(Due due) {
        for (int stage = 0; stage <= 2; stage++) {
            RebornDrivers x = new RebornDrivers(20);
            x.read(2, 8);
            for (int i = 0; i <= stage; i++) {
                due.ticks("before the death", x, 0);
            }
            due.is("driver(0, 2)", x.driver(0, 2), stage);
            due.taken("fault(0, 0)", x.fault(0, 0));
            due.ticks("died at stage " + stage, x, 0);
            due.is("given anew: driver(0, 2)", x.driver(0, 2), 0);
            due.is("given anew: request(0)", x.request(0), 2);
            due.ticks("died at stage " + stage, x, 0, 0, 1);
            due.is("state(2)", x.state(2), 2);
        }
    }

    private static void eachBlockHasItsOwnValue(Due due) {
        RebornDrivers x = new RebornDrivers(20);
        for (int b = 0; b < 16; b++) {
            x.write(0, b, 1000 + b);
            x.sync(1);
            due.ticks("written", x, 1, 0, 0, 0, 1);
        }
        for (int b = 0; b < 16; b++) {
            x.read(2, b);
            due.ticks("block " + b + " is read from the disk", x, 0, 0, 0, 1);
            due.is("block " + b + ": result(2)", x.result(2), 1000 + b);
        }
    }

    /** "BLOCKS 0 .. 15 are ints": each comes back from the cache and from the device as it was. */
    private static void anIntOfAnySizeIsRead(Due due) {
        for (int v : Edges.VALUES) {
            RebornDrivers x = new RebornDrivers(20);
            x.write(0, 15, v);
            x.read(1, 15);
            due.ticks("from the cache", x, 1, 1);
            due.is("from the cache: result(1)", x.result(1), v);
            x.sync(0);
            due.ticks("to the device", x, 0, 0, 0, 1);
            for (int b = 0; b < 3; b++) {
                x.write(0, b, 7);
                due.ticks("the slots are taken", x, 1);
            }
            x.read(1, 15);
            due.ticks("slot 1 is written, block 15 is read", x, 0, 0, 0, 0, 0, 0, 1);
            due.is("from the device: result(1)", x.result(1), v);
            due.slot("from the device", x, 1, 15, v, 0);
        }
    }
}
