/** Promise 14: driver. */
public final class Promise14DriverTest {
    private static final int[] OTHERS = {-1, 5, 6, Integer.MIN_VALUE, Integer.MAX_VALUE};

    public static void main(String[] args) {
        Due due = new Due();
        stages(due);
        endpointsAndRefusals(due);
        eachDriverHasItsOwn(due);
        wrongInputs(due);
        due.end();
    }

    private static void stages(Due due) {
        RebornDrivers x = new RebornDrivers(20);
        x.read(0, 1);
        x.print(1, 65);
        for (int stage = -1; stage <= 2; stage++) {
            due.driver("stage", x, 0, 0, 0, stage, 0, 1);
            due.driver("stage", x, 1, 0, 0, stage, 0, 1);
            due.ticks("stage " + stage, x, stage == 2 ? 2 : 0);
        }
        due.driver("answered", x, 0, 0, 0, -1, 0, 1);
        due.driver("answered", x, 1, 0, 0, -1, 0, 1);
    }

    private static void endpointsAndRefusals(Due due) {
        RebornDrivers x = new RebornDrivers(20);
        for (int i = 1; i <= 9; i++) {
            x.fault(0, 3);
            due.ticks("refused", x, 0);
            due.driver("dead", x, 0, i - 1, 2, -1, i, 1);
            due.ticks("restarted", x, 0);
            due.driver("restarted", x, 0, i, 0, -1, i, 1);
        }
        due.driver("the console", x, 1, 0, 0, -1, 0, 1);
    }

    private static void eachDriverHasItsOwn(Due due) {
        RebornDrivers x = new RebornDrivers(2);
        x.fault(1, 2);
        x.fault(0, 1);
        due.ticks("NOW 2", x, 0, 0);
        due.driver("hung, pinged", x, 0, 0, 1, -1, 0, 0);
        due.driver("alive, refused once", x, 1, 0, 0, -1, 1, 1);
        due.ticks("NOW 4", x, 0, 0);
        due.driver("restarted", x, 0, 1, 0, -1, 0, 1);
        due.driver("as before", x, 1, 0, 0, -1, 1, 1);
    }

    private static void wrongInputs(Due due) {
        RebornDrivers x = new RebornDrivers(20);
        for (int d : new int[] {-1, 2, 3, Integer.MIN_VALUE, Integer.MAX_VALUE}) {
            for (int k = 0; k <= 4; k++) {
                due.is("driver(" + d + ", " + k + ")", x.driver(d, k), -2);
            }
        }
        for (int k : OTHERS) {
            due.is("driver(0, " + k + ")", x.driver(0, k), -2);
            due.is("driver(1, " + k + ")", x.driver(1, k), -2);
        }
    }
}
