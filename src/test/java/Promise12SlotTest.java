/** Promise 12: slot. */
public final class Promise12SlotTest {
    public static void main(String[] args) {
        Due due = new Due();
        RebornDrivers x = new RebornDrivers(20);
        for (int i = 0; i < 3; i++) {
            due.slot("empty", x, i, -1, 0, 0);
        }
        x.write(0, 0, -9);
        x.write(1, 15, 9);
        x.read(2, 7);
        due.ticks("three slots", x, 1, 1, 0, 0, 0, 1);
        due.slot("first", x, 0, 0, -9, 1);
        due.slot("second", x, 1, 15, 9, 1);
        due.slot("third", x, 2, 7, 0, 0);
        x.sync(0);
        due.ticks("sync", x, 0, 0, 0, 0);
        due.slot("first is clean", x, 0, 0, -9, 0);
        due.slot("second is not", x, 1, 15, 9, 1);
        due.ticks("sync", x, 0, 0, 1);
        due.slot("second is clean", x, 1, 15, 9, 0);

        x.read(0, 8);
        due.ticks("the first is emptied", x, 0);
        due.slot("emptied: its value does not stay", x, 0, -1, 0, 0);
        due.ticks("and filled", x, 0, 0, 1);
        due.slot("filled", x, 0, 8, 0, 0);

        for (int i : new int[] {-1, 3, 4, Integer.MIN_VALUE, Integer.MAX_VALUE}) {
            for (int k = 0; k < 3; k++) {
                due.is("slot(" + i + ", " + k + ")", x.slot(i, k), -1);
            }
        }
        for (int k : new int[] {-1, 3, 4, Integer.MIN_VALUE, Integer.MAX_VALUE}) {
            for (int i = 0; i < 3; i++) {
                due.is("slot(" + i + ", " + k + ")", x.slot(i, k), -1);
            }
        }
        due.end();
    }
}
