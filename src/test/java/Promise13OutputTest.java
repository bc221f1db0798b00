/** Promise 13: output. */
public final class Promise13OutputTest {
    public static void main(String[] args) {
        Due due = new Due();
        manyCharacters(due);
        moreThanAreKept(due);
        due.end();
    }

    private static void manyCharacters(Due due) {
        RebornDrivers x = new RebornDrivers(20);
        due.is("empty: output(-1)", x.output(-1), 0);
        due.is("empty: output(0)", x.output(0), -2);
        for (int i = 0; i < 95; i++) {
            x.print(0, 32 + i);
            due.ticks("print", x, 0, 0, 0, 1);
            due.is("output(-1)", x.output(-1), i + 1);
        }
        for (int i = 0; i < 95; i++) {
            due.is("output(" + i + ")", x.output(i), 32 + i);
        }
        for (int i : new int[] {95, 96, 199, 200, 201, -2, -3, Integer.MIN_VALUE, Integer.MAX_VALUE}) {
            due.is("output(" + i + ")", x.output(i), -2);
        }
    }

    /** 201 characters need more than 512 calls, after which answers are free; but no call may throw. */
    private static void moreThanAreKept(Due due) {
        RebornDrivers x = new RebornDrivers(20);
        for (int i = 0; i < 203; i++) {
            x.print(0, 32 + i % 90);
            due.ticks("print", x, 0, 0, 0, 1);
        }
        due.is("output(-1)", x.output(-1), 200);
        due.is("output(0)", x.output(0), 32);
        due.is("output(199)", x.output(199), 32 + 199 % 90);
        due.is("output(200)", x.output(200), -2);
    }
}
