/** Promise 4: sync. */
public final class Promise04SyncTest {
    public static void main(String[] args) {
        Due due = new Due();
        nothingDirty(due);
        lowestBlockFirst(due);
        cleanSlotsAreLeft(due);
        standsInTheLine(due);
        Beginning.isForUsersAlone(due, "sync", RebornDrivers::sync);
        Beginning.waitsForTheEnd(due, "sync", RebornDrivers::sync);
        due.end();
    }

    private static void nothingDirty(Due due) {
        RebornDrivers x = new RebornDrivers(20);
        due.taken("sync(0)", x.sync(0));
        due.is("state(0)", x.state(0), 1);
        due.ticks("empty cache", x, 1);
        due.is("state(0)", x.state(0), 2);
        due.is("result(0)", x.result(0), 0);
        x.read(0, 3);
        due.ticks("read", x, 0, 0, 0, 1);
        due.taken("sync(3)", x.sync(3));
        due.ticks("clean cache", x, 1);
        due.is("request(0)", x.request(0), 0);
    }

    private static void lowestBlockFirst(Due due) {
        RebornDrivers x = new RebornDrivers(20);
        x.write(0, 9, 90);
        x.write(1, 2, 20);
        x.write(2, 5, 50);
        due.ticks("three dirty slots", x, 1, 1, 1);
        x.sync(3);
        due.ticks("block 2", x, 0, 0, 0);
        due.is("device(2)", x.device(2), 20);
        due.slot("dirty until answered", x, 1, 2, 20, 1);
        due.is("device(5)", x.device(5), 0);
        due.ticks("block 5", x, 0);
        due.slot("answered", x, 1, 2, 20, 0);
        due.is("given at once", x.driver(0, 2), 0);
        due.ticks("block 5", x, 0, 0);
        due.is("device(5)", x.device(5), 50);
        due.is("device(9)", x.device(9), 0);
        due.ticks("block 9", x, 0, 0, 0);
        due.is("device(9)", x.device(9), 90);
        due.is("pending until answered", x.state(3), 1);
        due.is("pending: result(3)", x.result(3), 0);
        due.ticks("done", x, 1);
        due.is("result(3)", x.result(3), 3);
        due.slot("clean", x, 0, 9, 90, 0);
        due.slot("clean", x, 1, 2, 20, 0);
        due.slot("clean", x, 2, 5, 50, 0);
    }

    private static void cleanSlotsAreLeft(Due due) {
        RebornDrivers x = new RebornDrivers(20);
        x.read(0, 1);
        due.ticks("a clean slot", x, 0, 0, 0, 1);
        x.write(0, 6, 60);
        due.ticks("a dirty slot", x, 1);
        x.sync(0);
        due.ticks("one request", x, 0, 0, 0, 1);
        due.is("result(0)", x.result(0), 1);
        x.sync(0);
        due.ticks("none", x, 1);
        due.is("counted anew", x.result(0), 0);
    }

    /** What is begun behind a sync waits for it; a sync does not use a slot. */
    private static void standsInTheLine(Due due) {
        RebornDrivers x = new RebornDrivers(20);
        x.write(0, 1, 10);
        x.write(1, 2, 20);
        x.write(2, 3, 30);
        due.ticks("three dirty slots", x, 1, 1, 1);
        x.sync(3);
        x.write(0, 3, 31);
        x.write(1, 4, 40);
        due.ticks("the sync", x, 0, 0, 0, 0, 0, 0, 0, 0, 0, 1);
        due.is("device(3)", x.device(3), 30);
        due.ticks("the writes", x, 1, 1);
        due.slot("slot 0 was the oldest", x, 0, 4, 40, 1);
        due.slot("slot 1 stays", x, 1, 2, 20, 0);
        due.slot("slot 2 is dirty again", x, 2, 3, 31, 1);
    }
}
