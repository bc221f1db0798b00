/** What holds for all calls: "An object is used for at most 512 calls after it has been made"; looks change nothing. */
public final class TermsCallsTest {
    private static final int CALLS = 512;

    public static void main(String[] args) {
        Due due = new Due();
        ticksToTheLastCall(due);
        for (int d = 0; d < 2; d++) {
            faultsToTheLastCall(due, d, 0, 0);
            faultsToTheLastCall(due, d, 2, 3);
        }
        writesToTheLastCall(due);
        lookingChangesNothing(due);
        due.end();
    }

    private static void ticksToTheLastCall(Due due) {
        for (int h = 2; h <= 20; h++) {
            RebornDrivers x = Situation.ticked(new RebornDrivers(h), CALLS - 1);
            due.is("h " + h + ", call 512: now()", x.now(), CALLS - 1);
        }
    }

    /** Endpoints (look 0) grow with deaths (fault 0), refusals (look 3) with sends (fault 2). */
    private static void faultsToTheLastCall(Due due, int d, int k, int look) {
        RebornDrivers x = new RebornDrivers(2);
        int times = (CALLS - 2) / 2;
        for (int i = 1; i <= times; i++) {
            due.taken("time " + i + ": fault(" + d + ", " + k + ")", x.fault(d, k));
            due.ticks("time " + i, x, 0);
        }
        due.is("call 511: driver(" + d + ", " + look + ")", x.driver(d, look), times);
        due.is("call 512: now()", x.now(), times);
    }

    /** Slots are used hundreds of times, and still the one used longest ago is taken. */
    private static void writesToTheLastCall(Due due) {
        RebornDrivers x = new RebornDrivers(20);
        for (int i = 0; i < 250; i++) {
            due.taken("write " + i, x.write(i % 4, i % 3, i));
            due.ticks("write " + i, x, 1);
        }
        x.write(0, 3, -1);
        due.ticks("slot 1 is written", x, 0, 0, 0, 1);
        due.is("slot(0, 1)", x.slot(0, 1), 249);
        due.is("slot(1, 0)", x.slot(1, 0), 3);
        due.is("slot(1, 1)", x.slot(1, 1), -1);
        due.is("slot(2, 1)", x.slot(2, 1), 248);
        due.is("device(1)", x.device(1), 247);
    }

    /** Looks, those with wrong arguments among them, leave an object as its twin is that was not looked at. */
    private static void lookingChangesNothing(Due due) {
        for (Situation situation : Situation.values()) {
            RebornDrivers x = situation.make();
            RebornDrivers twin = situation.make();
            Looks.ALL.values().forEach(look -> look.applyAsInt(x));
            for (int i : Edges.outside(0, 15)) {
                x.state(i);
                x.result(i);
                x.line(i);
                x.device(i);
                x.slot(i, 0);
                x.slot(0, i);
                x.output(i);
                x.driver(i, 0);
                x.driver(0, i);
                x.request(i);
            }
            due.same(situation + ", looked at", x, twin);
            for (int i = 0; i < 14; i++) {
                due.is(situation + ", looked at: tick()", x.tick(), twin.tick());
            }
            due.same(situation + ", later", x, twin);
        }
    }
}
