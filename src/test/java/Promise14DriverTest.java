/** Promise 14: driver. */
public final class Promise14DriverTest {
    public static void main(String[] args) {
        Due due = new Due();
        stages(due);
        endpointsAndRefusals(due);
        eachDriverHasItsOwn(due);
        noRequestHasNoStage(due);
        driversAre0And1(due);
        kindsAre0To4(due);
        due.end();
    }

    private static void stages(Due due) {
        RebornDrivers x = new RebornDrivers(20);
        x.read(0, 1);
        x.print(1, 65);
        for (int stage = -1; stage <= 2; stage++) {
            due.driver("stage", x, 0, 0, 0, stage, 0, 1);
            due.driver("stage", x, 1, 0, 0, stage, 0, 1);
            due.ticks("stage " + stage, x, stage == 2 ? 2 : 0);
        }
        due.driver("answered", x, 0, 0, 0, -1, 0, 1);
        due.driver("answered", x, 1, 0, 0, -1, 0, 1);
    }

    private static void endpointsAndRefusals(Due due) {
        RebornDrivers x = new RebornDrivers(20);
        for (int i = 1; i <= 9; i++) {
            x.fault(0, 3);
            due.ticks("refused", x, 0);
            due.driver("dead", x, 0, i - 1, 2, -1, i, 1);
            due.ticks("restarted", x, 0);
            due.driver("restarted", x, 0, i, 0, -1, i, 1);
        }
        due.driver("the console", x, 1, 0, 0, -1, 0, 1);
    }

    private static void eachDriverHasItsOwn(Due due) {
        RebornDrivers x = new RebornDrivers(2);
        x.fault(1, 2);
        x.fault(0, 1);
        due.ticks("NOW 2", x, 0, 0);
        due.driver("hung, pinged", x, 0, 0, 1, -1, 0, 0);
        due.driver("alive, refused once", x, 1, 0, 0, -1, 1, 1);
        due.ticks("NOW 4", x, 0, 0);
        due.driver("restarted", x, 0, 1, 0, -1, 0, 1);
        due.driver("as before", x, 1, 0, 0, -1, 1, 1);
    }

    /** "the stage of its request, -1 if it has none": before one is given, when it is answered, when it is lost. */
    private static void noRequestHasNoStage(Due due) {
        for (Work work : Work.values()) {
            int d = work.driver;
            due.is(work + ", not given yet", work.at(-1, 20).driver(d, 2), -1);
            due.is(work + ", given", work.at(0, 20).driver(d, 2), 0);
            due.is(work + ", answered", work.at(3, 20).driver(d, 2), -1);
            RebornDrivers x = work.at(2, 20);
            due.is(work + ", not answered yet", x.driver(d, 2), 2);
            x.fault(d, 0);
            due.is(work + ", lost", x.driver(d, 2), -1);
        }
    }

    /** "-2 if there is no driver d" */
    private static void driversAre0And1(Due due) {
        for (Situation situation : Situation.values()) {
            RebornDrivers x = situation.make();
            for (int d : Edges.NO_DRIVERS) {
                for (int k = 0; k <= 4; k++) {
                    due.is(situation + ": driver(" + d + ", " + k + ")", x.driver(d, k), -2);
                }
            }
        }
    }

    /** "or k is not 0 .. 4" */
    private static void kindsAre0To4(Due due) {
        for (Situation situation : Situation.values()) {
            RebornDrivers x = situation.make();
            for (int k : Edges.outside(0, 4)) {
                for (int d = -1; d <= 2; d++) {
                    due.is(situation + ": driver(" + d + ", " + k + ")", x.driver(d, k), -2);
                }
            }
        }
    }
}
