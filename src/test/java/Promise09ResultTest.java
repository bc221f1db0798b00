/** Promise 9: result. */
public final class Promise09ResultTest {
    public static void main(String[] args) {
        Due due = new Due();
        ofReads(due);
        ofWritesAndPrints(due);
        ofSyncs(due);
        ofFailures(due);
        ofSyncsOfUpToThreeSlots(due);
        ofReadsThatLookLikeOtherAnswers(due);
        ofOperationsThatArePending(due);
        ofNoUser(due);
        due.end();
    }

    private static void ofReads(Due due) {
        RebornDrivers x = new RebornDrivers(20);
        due.is("nothing begun", x.result(0), 0);
        x.write(0, 1, -77);
        x.read(1, 1);
        due.is("pending", x.result(1), 0);
        due.ticks("a write and a read", x, 1, 1);
        due.is("the read", x.result(1), -77);
        x.write(0, 1, 5);
        due.ticks("a later write", x, 1);
        due.is("the read's result stays", x.result(1), -77);
        due.refused("read(1, 16)", x.read(1, 16));
        due.is("a refused call changes nothing", x.result(1), -77);
        x.read(1, 2);
        due.is("the next read is pending", x.result(1), 0);
        due.ticks("a miss", x, 0, 0, 0, 1);
        due.is("of a block that is 0", x.result(1), 0);
    }

    private static void ofWritesAndPrints(Due due) {
        RebornDrivers x = new RebornDrivers(20);
        x.write(0, 1, 9);
        x.print(1, 65);
        due.ticks("both", x, 1, 0, 0, 1);
        due.is("of a write", x.result(0), 0);
        due.is("of a print", x.result(1), 0);
        x.read(0, 1);
        due.ticks("a read", x, 1);
        due.is("of a read", x.result(0), 9);
        x.write(0, 1, 8);
        due.ticks("a write after it", x, 1);
        due.is("of the write", x.result(0), 0);
        x.write(0, 6, 8);
        due.ticks("a write into an empty slot", x, 1);
        due.is("of the write", x.result(0), 0);
    }

    /** Only requests that the sync made count, and each once, however often it is given. */
    private static void ofSyncs(Due due) {
        RebornDrivers x = new RebornDrivers(20);
        for (int u = 0; u < 3; u++) {
            x.write(u, u, 10 + u);
        }
        due.ticks("three dirty slots", x, 1, 1, 1);
        x.write(0, 3, 13);
        x.sync(1);
        due.ticks("the write has slot 0 written", x, 0, 0, 0, 1);
        due.ticks("the sync begins", x, 0);
        x.fault(0, 0);
        due.ticks("its request is given again", x, 0);
        x.fault(0, 0);
        due.ticks("and again", x, 0, 0, 0);
        due.is("pending", x.result(1), 0);
        due.ticks("the rest", x, 0, 0, 0, 0, 0, 0, 1);
        due.is("of the sync", x.result(1), 3);
        x.write(0, 3, 14);
        x.sync(1);
        due.is("the next is pending", x.result(1), 0);
        due.ticks("one dirty slot", x, 1, 0, 0, 0, 1);
        due.is("of the next sync", x.result(1), 1);

        x.fault(0, 3);
        x.write(0, 3, 15);
        due.ticks("the disk dies", x, 1);
        x.fault(0, 3);
        x.sync(1);
        due.ticks("restarted, given", x, 0, 0, 0, 1);
        due.is("dead when it was faulted: one request", x.result(1), 1);

        x.write(0, 3, 16);
        due.ticks("dirty", x, 1);
        x.fault(0, 3);
        x.sync(1);
        due.ticks("not given, given, done", x, 0, 0, 0, 0, 1);
        due.is("not given at first: one request", x.result(1), 1);
    }

    private static void ofFailures(Due due) {
        RebornDrivers x = new RebornDrivers(20);
        x.print(2, 65);
        due.ticks("given", x, 0);
        x.fault(1, 0);
        due.is("still pending", x.result(2), 0);
        due.ticks("failed", x, 1);
        due.is("failed", x.result(2), -5);
        due.is("of another user", x.result(1), 0);
        x.print(2, 66);
        due.is("the next is pending", x.result(2), 0);
        due.ticks("done", x, 0, 0, 0, 1);
        due.is("done", x.result(2), 0);
    }

    /** "of a sync that is done how many requests to write it made": 0 to 3 slots can be dirty. */
    private static void ofSyncsOfUpToThreeSlots(Due due) {
        for (int slots = 0; slots <= 3; slots++) {
            RebornDrivers x = new RebornDrivers(20);
            for (int b = 0; b < slots; b++) {
                x.write(b, b, 5);
            }
            x.sync(3);
            Situation.ticked(x, slots + 3 * slots);
            due.is(slots + " slots, pending: result(3)", x.result(3), 0);
            due.ticks(slots + " slots", x, 1);
            due.is(slots + " slots: result(3)", x.result(3), slots);
        }
    }

    /** "of a read that is done the value", also if it is 0 or the -5 that tells of a failure */
    private static void ofReadsThatLookLikeOtherAnswers(Due due) {
        for (int v : Edges.VALUES) {
            RebornDrivers x = new RebornDrivers(20);
            x.write(0, 2, v);
            x.read(1, 2);
            due.ticks("a read of " + v, x, 1, 1);
            due.is("a read of " + v + ": state(1)", x.state(1), 2);
            due.is("a read of " + v + ": result(1)", x.result(1), v);
        }
    }

    /** "0 of all others": what the operation before it came to is not told any more. */
    private static void ofOperationsThatArePending(Due due) {
        for (int kind = 0; kind < 4; kind++) {
            RebornDrivers x = Situation.allHaveEnded();
            int[] before = {70, -5, 3, 0};
            for (int u = 0; u < 4; u++) {
                due.is("ended: result(" + u + ")", x.result(u), before[u]);
                begin(x, u, kind);
                due.is("kind " + kind + " is pending: result(" + u + ")", x.result(u), 0);
            }
        }
    }

    private static void begin(RebornDrivers x, int u, int kind) {
        switch (kind) {
            case 0 -> x.read(u, 1);
            case 1 -> x.write(u, 1, 6);
            case 2 -> x.sync(u);
            default -> x.print(u, 66);
        }
    }

    /** "0 ... if none was begun, or there is no user u" */
    private static void ofNoUser(Due due) {
        RebornDrivers x = new RebornDrivers(20);
        for (int u = 0; u < 4; u++) {
            due.is("none was begun: result(" + u + ")", x.result(u), 0);
        }
        x.write(0, 1, 7);
        due.ticks("a write", x, 1);
        for (int u = 0; u < 4; u++) {
            x.read(u, 1);
        }
        due.ticks("reads", x, 1, 1, 1, 1);
        for (int u = 0; u < 4; u++) {
            due.is("result(" + u + ")", x.result(u), 7);
        }
        for (int u : Edges.NO_USERS) {
            due.is("result(" + u + ")", x.result(u), 0);
        }
    }
}
