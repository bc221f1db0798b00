/** Promise 7: fault. */
public final class Promise07FaultTest {
    public static void main(String[] args) {
        Due due = new Due();
        for (int d = 0; d < 2; d++) {
            killed(due, d);
            hung(due, d);
            badBySend(due, d);
            badByGrant(due, d);
            theLatestBadnessCounts(due, d);
            badnessEndsWithTheDriver(due, d);
            badAndSilent(due, d);
        }
        aWriteIsRepeated(due);
        wrongInputs(due);
        due.end();
    }

    /** An object whose driver d has a request at stage 1; the other driver has none. */
    private static RebornDrivers working(Due due, int d, int h) {
        RebornDrivers x = new RebornDrivers(h);
        if (d == 0) {
            x.read(0, 1);
        } else {
            x.print(0, 65);
        }
        due.ticks("working", x, 0, 0);
        due.driver("working", x, d, 0, 0, 1, 0, 1);
        return x;
    }

    private static void killed(Due due, int d) {
        RebornDrivers x = working(due, d, 20);
        due.taken("fault(d, 0)", x.fault(d, 0));
        due.driver("killed", x, d, 0, 2, -1, 0, 1);
        due.driver("the other", x, 1 - d, 0, 0, -1, 0, 1);
        for (int k = 0; k <= 3; k++) {
            due.refused("dead: fault(d, " + k + ")", x.fault(d, k));
        }
        due.is("the server does not know it yet", x.request(d), 2);
        due.driver("still dead", x, d, 0, 2, -1, 0, 1);
        x.tick();
        due.is("restarted", x.driver(d, 1), 0);
        due.is("refusals", x.driver(d, 3), 0);
    }

    private static void hung(Due due, int d) {
        RebornDrivers x = working(due, d, 20);
        due.taken("fault(d, 1)", x.fault(d, 1));
        due.driver("it keeps its request", x, d, 0, 1, 1, 0, 1);
        for (int k = 1; k <= 3; k++) {
            due.refused("hung: fault(d, " + k + ")", x.fault(d, k));
        }
        due.ticks("it does nothing", x, 0, 0, 0, 0, 0);
        due.driver("it does nothing", x, d, 0, 1, 1, 0, 1);
        due.is("nothing is put out", x.output(-1), 0);
        due.taken("hung: fault(d, 0)", x.fault(d, 0));
        due.driver("killed", x, d, 0, 2, -1, 0, 1);
        x.tick();
        due.is("restarted: endpoint", x.driver(d, 0), 1);
        due.is("restarted: alive", x.driver(d, 1), 0);
        due.is("no refusal", x.driver(d, 3), 0);
    }

    private static void badBySend(Due due, int d) {
        RebornDrivers x = working(due, d, 20);
        due.taken("fault(d, 2)", x.fault(d, 2));
        due.driver("nothing seen before its step", x, d, 0, 0, 1, 0, 1);
        due.taken("fault(d, 2) again", x.fault(d, 2));
        due.ticks("refused", x, 0);
        due.driver("refused, and that is all", x, d, 0, 0, 1, 1, 1);
        due.ticks("it goes on", x, 0, 1);
        due.driver("done", x, d, 0, 0, -1, 1, 1);
    }

    private static void badByGrant(Due due, int d) {
        RebornDrivers x = working(due, d, 20);
        due.taken("fault(d, 3)", x.fault(d, 3));
        due.driver("nothing seen before its step", x, d, 0, 0, 1, 0, 1);
        due.ticks("refused", x, 0);
        due.driver("refused and dead", x, d, 0, 2, -1, 1, 1);
        due.is("still taken for given", x.request(d), 2);
        due.refused("dead: fault(d, 0)", x.fault(d, 0));
        due.ticks("the print fails, the read is given anew", x, d);
        due.driver("restarted; refusals stay", x, d, 1, 0, d == 0 ? 0 : -1, 1, 1);
    }

    private static void theLatestBadnessCounts(Due due, int d) {
        RebornDrivers x = working(due, d, 20);
        x.fault(d, 3);
        due.taken("a send after a grant", x.fault(d, 2));
        due.ticks("the send", x, 0);
        due.driver("the send", x, d, 0, 0, 1, 1, 1);
        x.fault(d, 2);
        due.taken("a grant after a send", x.fault(d, 3));
        due.ticks("the grant", x, 0);
        due.driver("the grant", x, d, 0, 2, -1, 2, 1);
    }

    private static void badnessEndsWithTheDriver(Due due, int d) {
        for (int k = 2; k <= 3; k++) {
            RebornDrivers x = new RebornDrivers(3);
            x.fault(d, k);
            x.fault(d, 0);
            due.ticks("restarted", x, 0, 0);
            due.driver("killed while bad", x, d, 1, 0, -1, 0, 1);

            RebornDrivers y = new RebornDrivers(3);
            y.fault(d, k);
            due.taken("bad: fault(d, 1)", y.fault(d, 1));
            due.ticks("to NOW 6", y, 0, 0, 0, 0, 0, 0);
            due.driver("hung while bad", y, d, 1, 0, -1, 0, 1);
        }
    }

    /** A driver that is bad answers its ping before it is refused. */
    private static void badAndSilent(Due due, int d) {
        for (int k = 2; k <= 3; k++) {
            RebornDrivers x = new RebornDrivers(2);
            due.ticks("NOW 1", x, 0);
            x.fault(d, k);
            due.ticks("NOW 2", x, 0);
            due.driver("pinged, answered, refused", x, d, 0, k == 2 ? 0 : 2, -1, 1, 1);
        }
    }

    /** The disk may die after it has brought the value to the device; the new one brings it once more. */
    private static void aWriteIsRepeated(Due due) {
        RebornDrivers x = new RebornDrivers(20);
        x.write(0, 1, 10);
        x.sync(1);
        due.ticks("to stage 2", x, 1, 0, 0, 0);
        due.is("device(1)", x.device(1), 10);
        x.fault(0, 0);
        due.ticks("given anew", x, 0);
        due.slot("still dirty", x, 0, 1, 10, 1);
        due.ticks("done", x, 0, 0, 1);
        due.slot("clean", x, 0, 1, 10, 0);
        due.is("one request", x.result(1), 1);
    }

    private static void wrongInputs(Due due) {
        RebornDrivers x = new RebornDrivers(20);
        for (int d : new int[] {-1, 2, 3, Integer.MIN_VALUE, Integer.MAX_VALUE}) {
            for (int k = 0; k <= 3; k++) {
                due.refused("fault(" + d + ", " + k + ")", x.fault(d, k));
            }
        }
        for (int k : new int[] {-1, 4, 5, Integer.MIN_VALUE, Integer.MAX_VALUE}) {
            for (int d = 0; d < 2; d++) {
                due.refused("fault(" + d + ", " + k + ")", x.fault(d, k));
            }
        }
        due.ticks("nothing befell them", x, 0);
        due.driver("disk", x, 0, 0, 0, -1, 0, 1);
        due.driver("console", x, 1, 0, 0, -1, 0, 1);
        x.fault(0, 1);
        due.refused("hung: fault(0, 4)", x.fault(0, 4));
        due.refused("hung: fault(0, -1)", x.fault(0, -1));
    }
}
