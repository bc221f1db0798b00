/** Promise 12: slot. */
public final class Promise12SlotTest {
    public static void main(String[] args) {
        Due due = new Due();
        RebornDrivers x = new RebornDrivers(20);
        for (int i = 0; i < 3; i++) {
            due.slot("empty", x, i, -1, 0, 0);
        }
        x.write(0, 0, -9);
        x.write(1, 15, 9);
        x.read(2, 7);
        due.ticks("three slots", x, 1, 1, 0, 0, 0, 1);
        due.slot("first", x, 0, 0, -9, 1);
        due.slot("second", x, 1, 15, 9, 1);
        due.slot("third", x, 2, 7, 0, 0);
        x.sync(0);
        due.ticks("sync", x, 0, 0, 0, 0);
        due.slot("first is clean", x, 0, 0, -9, 0);
        due.slot("second is not", x, 1, 15, 9, 1);
        due.ticks("sync", x, 0, 0, 1);
        due.slot("second is clean", x, 1, 15, 9, 0);

        x.read(0, 8);
        due.ticks("the first is emptied", x, 0);
        due.slot("emptied: its value does not stay", x, 0, -1, 0, 0);
        due.ticks("and filled", x, 0, 0, 1);
        due.slot("filled", x, 0, 8, 0, 0);

        emptyOrNot(due);
        slotsAre0To2(due);
        kindsAre0To2(due);
        due.end();
    }

    /** "its block (-1 if it is empty), 1 its value (0 if empty)": block 0 with value 0 is not empty. */
    private static void emptyOrNot(Due due) {
        RebornDrivers x = new RebornDrivers(20);
        x.write(0, 0, 0);
        x.write(1, 15, -1);
        due.ticks("two writes", x, 1, 1);
        due.slot("block 0 with value 0", x, 0, 0, 0, 1);
        due.slot("block 15 with value -1", x, 1, 15, -1, 1);
        due.slot("empty", x, 2, -1, 0, 0);
        x.sync(0);
        x.read(1, 1);
        x.read(2, 2);
        due.ticks("two clean slots, block 1 read", x, 0, 0, 0, 0, 0, 0, 1, 0, 0, 0, 1);
        due.ticks("block 2 is read", x, 0, 0, 0);
        due.slot("slot 0 is empty until block 2 is there", x, 0, -1, 0, 0);
        due.ticks("block 2 is read", x, 1);
        x.read(3, 3);
        due.ticks("block 3 is read", x, 0, 0, 0);
        due.slot("its value -1 does not stay", x, 1, -1, 0, 0);
    }

    /** "-1 if there is no slot i" */
    private static void slotsAre0To2(Due due) {
        RebornDrivers x = full();
        for (int i : Edges.NO_SLOTS) {
            for (int k = 0; k <= 2; k++) {
                due.is("slot(" + i + ", " + k + ")", x.slot(i, k), -1);
                due.is("new: slot(" + i + ", " + k + ")", new RebornDrivers(20).slot(i, k), -1);
            }
        }
    }

    /** "or k is not 0 .. 2" */
    private static void kindsAre0To2(Due due) {
        RebornDrivers x = full();
        for (int k : Edges.outside(0, 2)) {
            for (int i = -1; i <= 3; i++) {
                due.is("slot(" + i + ", " + k + ")", x.slot(i, k), -1);
                due.is("new: slot(" + i + ", " + k + ")", new RebornDrivers(20).slot(i, k), -1);
            }
        }
    }

    /** An object whose slots are all dirty. */
    private static RebornDrivers full() {
        RebornDrivers x = new RebornDrivers(20);
        for (int u = 0; u < 3; u++) {
            x.write(u, 5 + u, 50 + u);
        }
        return Situation.ticked(x, 3);
    }
}
