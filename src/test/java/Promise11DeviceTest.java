/** Promise 11: device. */
public final class Promise11DeviceTest {
    public static void main(String[] args) {
        Due due = new Due();
        RebornDrivers x = new RebornDrivers(20);
        for (int b = 0; b < 16; b++) {
            due.is("device(" + b + ")", x.device(b), 0);
            x.write(0, b, 1000 + b);
            x.sync(1);
            due.ticks("written", x, 1, 0, 0, 0, 1);
            due.is("device(" + b + ")", x.device(b), 1000 + b);
        }
        for (int b = 0; b < 16; b++) {
            due.is("device(" + b + ")", x.device(b), 1000 + b);
        }
        noBlock(due, x);
        changesAtStageTwo(due);
        readsWhatStandsThere(due);
        due.end();
    }

    /** "0 if there is none", of an object whose blocks are all another thing than 0 */
    private static void noBlock(Due due, RebornDrivers x) {
        for (int b : Edges.NO_BLOCKS) {
            due.is("device(" + b + ")", x.device(b), 0);
        }
    }

    private static void changesAtStageTwo(Due due) {
        RebornDrivers x = new RebornDrivers(20);
        x.write(0, 0, Integer.MIN_VALUE);
        due.ticks("in the cache alone", x, 1);
        due.is("device(0)", x.device(0), 0);
        x.sync(0);
        due.ticks("stage 0", x, 0);
        due.is("device(0)", x.device(0), 0);
        due.ticks("stage 1", x, 0);
        due.is("device(0)", x.device(0), 0);
        due.ticks("stage 2", x, 0);
        due.is("device(0)", x.device(0), Integer.MIN_VALUE);
    }

    private static void readsWhatStandsThere(Due due) {
        RebornDrivers x = new RebornDrivers(20);
        for (int b = 0; b < 4; b++) {
            x.write(0, b, 5 - b);
            x.sync(1);
            due.ticks("written", x, 1, 0, 0, 0, 1);
        }
        x.read(2, 0);
        due.ticks("block 0 is no more in the cache", x, 0, 0, 0, 1);
        due.is("result(2)", x.result(2), 5);
        due.is("device(0)", x.device(0), 5);
    }
}
