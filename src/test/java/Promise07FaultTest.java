/** Promise 7: fault. */
public final class Promise07FaultTest {
    public static void main(String[] args) {
        Due due = new Due();
        driversAre0And1(due);
        kindsAre0To3(due);
        for (Work work : Work.values()) {
            for (int stage = -1; stage <= 2; stage++) {
                killed(due, work, stage);
                hung(due, work, stage);
                badBySend(due, work, stage);
                badByGrant(due, work, stage);
                aDeadOneTakesNothing(due, work, stage);
                aHungOneTakesDeathAlone(due, work, stage);
                theLatestBadnessCounts(due, work, stage);
            }
        }
        for (int d = 0; d < 2; d++) {
            badnessEndsWithTheDriver(due, d);
            badAndPinged(due, d);
        }
        aWriteIsRepeated(due);
        due.end();
    }

    /** "False, refused, if there is no driver d" */
    private static void driversAre0And1(Due due) {
        for (int d = 0; d < 2; d++) {
            RebornDrivers x = new RebornDrivers(20);
            due.taken("fault(" + d + ", 0)", x.fault(d, 0));
            due.driver("the one", x, d, 0, 2, -1, 0, 1);
            due.driver("the other", x, 1 - d, 0, 0, -1, 0, 1);
        }
        for (int d : Edges.NO_DRIVERS) {
            for (int k = 0; k <= 3; k++) {
                int kind = k;
                Refusal.inEachSituation(due, "fault(" + d + ", " + k + ")", x -> x.fault(d, kind));
            }
        }
    }

    /** "k is not 0 .. 3" */
    private static void kindsAre0To3(Due due) {
        for (int k = 0; k <= 3; k++) {
            due.taken("fault(0, " + k + ")", new RebornDrivers(20).fault(0, k));
            due.taken("fault(1, " + k + ")", new RebornDrivers(20).fault(1, k));
        }
        for (int k : Edges.NO_FAULTS) {
            for (int d = -1; d <= 2; d++) {
                int driver = d;
                Refusal.inEachSituation(due, "fault(" + d + ", " + k + ")", x -> x.fault(driver, k));
            }
        }
    }

    /** "0: it is dead, and its request is lost" */
    private static void killed(Due due, Work work, int stage) {
        String when = work + " at " + stage + ", killed";
        RebornDrivers x = work.at(stage, 20);
        int d = work.driver;
        due.is(when + ": stage", x.driver(d, 2), stage);
        due.taken(when, x.fault(d, 0));
        due.driver(when, x, d, 0, 2, -1, 0, 1);
        due.driver(when + ": the other", x, 1 - d, 0, 0, -1, 0, 1);
        due.is(when + ": the server does not know it yet", x.request(d), stage == -1 ? 0 : 2);
        work.isCarriedOut(due, when, x, stage == 2);
        isRestarted(due, when, work, x, stage, 0);
    }

    /** "1: it is hung"; "One that is hung keeps its request, and does nothing, until it is restarted or dead." */
    private static void hung(Due due, Work work, int stage) {
        String when = work + " at " + stage + ", hung";
        int d = work.driver;
        RebornDrivers x = work.at(stage, 10);
        due.taken(when, x.fault(d, 1));
        due.driver(when, x, d, 0, 1, stage, 0, 1);
        int kept = Math.max(stage, 0);
        while (x.now() % 10 != 9) {
            due.ticks(when, x, 0);
            due.driver(when + ", not pinged", x, d, 0, 1, kept, 0, 1);
        }
        for (int i = 0; i < 10; i++) {
            due.ticks(when, x, 0);
            due.driver(when + ", pinged", x, d, 0, 1, kept, 0, 0);
        }
        work.isCarriedOut(due, when, x, stage == 2);
        isRestarted(due, when, work, x, kept, 0);
    }

    /** "2: it is bad by a send ... until its next step" */
    private static void badBySend(Due due, Work work, int stage) {
        String when = work + " at " + stage + ", bad by a send";
        int d = work.driver;
        RebornDrivers x = work.at(stage, 20);
        due.taken(when, x.fault(d, 2));
        due.driver(when + ", nothing seen before its step", x, d, 0, 0, stage, 0, 1);
        due.ticks(when, x, 0);
        int kept = Math.max(stage, 0);
        due.driver(when + ", refused, and that is all", x, d, 0, 0, kept, 1, 1);
        work.isCarriedOut(due, when, x, stage == 2);
        goesOn(due, when, work, x, kept, stage == 2);
        due.driver(when + ", not bad any more", x, d, 0, 0, -1, 1, 1);
    }

    /** "3: it is bad by a grant ... until its next step" */
    private static void badByGrant(Due due, Work work, int stage) {
        String when = work + " at " + stage + ", bad by a grant";
        int d = work.driver;
        RebornDrivers x = work.at(stage, 20);
        due.taken(when, x.fault(d, 3));
        due.driver(when + ", nothing seen before its step", x, d, 0, 0, stage, 0, 1);
        due.ticks(when, x, 0);
        due.driver(when + ", refused and dead", x, d, 0, 2, -1, 1, 1);
        work.isCarriedOut(due, when, x, stage == 2);
        due.is(when + ": request", x.request(d), stage == -1 ? 1 : 2);
        isRestarted(due, when, work, x, stage, 1);
        due.ticks(when + ", not bad any more", x, 0);
        due.driver(when + ", not bad any more", x, d, 1, 0, -1, 1, 1);
    }

    /** The next tick restarts the driver: a print that it had has failed, other work is given to it and done. */
    private static void isRestarted(Due due, String when, Work work, RebornDrivers x, int stage, int refusals) {
        boolean fails = work == Work.PRINTING && stage != -1;
        due.ticks(when + ", restarted", x, fails ? 1 : 0);
        due.driver(when + ", restarted", x, work.driver, 1, 0, fails ? -1 : 0, refusals, 1);
        if (fails) {
            work.isCarriedOut(due, when + ", restarted", x, stage == 2);
            due.is(when + ", restarted: state(0)", x.state(0), 3);
            due.is(when + ", restarted: result(0)", x.result(0), -5);
        } else {
            goesOn(due, when + ", restarted", work, x, 0, stage == 2);
        }
    }

    /** From the stage on the work is done without trouble; a driver that died may have carried it out before. */
    private static void goesOn(Due due, String when, Work work, RebornDrivers x, int stage, boolean carriedOut) {
        for (int i = stage; i <= 2; i++) {
            due.is(when + ", going on: stage", x.driver(work.driver, 2), i);
            due.is(when + ", going on: state(0)", x.state(0), 1);
            work.isCarriedOut(due, when + ", going on", x, i == 2 || carriedOut);
            due.ticks(when + ", going on", x, i == 2 ? 1 : 0);
        }
        work.isCarriedOut(due, when + ", gone on", x, true);
        due.is(when + ", gone on: state(0)", x.state(0), 2);
        due.is(when + ", gone on: result(0)", x.result(0), work.result());
    }

    /** "False, refused, if ... the driver is dead", whichever way it died */
    private static void aDeadOneTakesNothing(Due due, Work work, int stage) {
        int d = work.driver;
        for (int i = 0; i <= 3; i++) {
            int k = i;
            String call = work + " at " + stage + ", dead: fault(" + d + ", " + k + ")";
            Refusal.check(due, call + " after a kill", () -> faulted(work, stage, 0), x -> x.fault(d, k));
            Refusal.check(due, call + " after a hang and a kill", () -> faulted(work, stage, 1, 0), x -> x.fault(d, k));
            Refusal.check(due, call + " when bad", () -> faulted(work, stage, 2, 0), x -> x.fault(d, k));
            Refusal.check(due, call + " by a grant", () -> Situation.ticked(faulted(work, stage, 3), 1),
                    x -> x.fault(d, k));
            due.taken(call + ": the other driver", faulted(work, stage, 0).fault(1 - d, k));
        }
        RebornDrivers x = Situation.ticked(faulted(work, stage, 0), 1);
        due.taken(work + " at " + stage + ": restarted, it can be struck again", x.fault(d, 3));
    }

    /** "or it is hung and k is not 0" */
    private static void aHungOneTakesDeathAlone(Due due, Work work, int stage) {
        int d = work.driver;
        String when = work + " at " + stage + ", hung: fault(" + d + ", ";
        for (int i = 1; i <= 3; i++) {
            int k = i;
            Refusal.check(due, when + k + ")", () -> faulted(work, stage, 1), x -> x.fault(d, k));
            Refusal.check(due, when + k + "), pinged", () -> Situation.ticked(faulted(work, stage, 1), 4),
                    x -> x.fault(d, k));
            Refusal.check(due, when + k + "), bad", () -> faulted(work, stage, 3, 1), x -> x.fault(d, k));
            due.taken(when + k + "): the other driver", faulted(work, stage, 1).fault(1 - d, k));
        }
        RebornDrivers x = faulted(work, stage, 1);
        due.taken(when + "0)", x.fault(d, 0));
        due.driver(when + "0)", x, d, 0, 2, -1, 0, 1);
        x.tick();
        due.is(when + "0), restarted: endpoint", x.driver(d, 0), 1);
        due.is(when + "0), restarted: alive", x.driver(d, 1), 0);
        due.is(when + "0), restarted: refusals", x.driver(d, 3), 0);
    }

    private static RebornDrivers faulted(Work work, int stage, int... faults) {
        RebornDrivers x = work.at(stage, 4);
        for (int k : faults) {
            x.fault(work.driver, k);
        }
        return x;
    }

    /** "both until its next step or its end, the latest one counts" */
    private static void theLatestBadnessCounts(Due due, Work work, int stage) {
        int[][] rows = {{2, 2}, {3, 2}, {2, 3, 2}, {3, 3}, {2, 3}, {3, 2, 3}};
        for (int[] row : rows) {
            int latest = row[row.length - 1];
            RebornDrivers x = work.at(stage, 20);
            for (int k : row) {
                due.taken("bad: fault(" + work.driver + ", " + k + ")", x.fault(work.driver, k));
            }
            due.ticks("the latest", x, 0);
            String when = "the latest of " + row.length + ", " + latest + ", " + work + " at " + stage;
            due.is(when + ": condition", x.driver(work.driver, 1), latest == 3 ? 2 : 0);
            due.is(when + ": one refusal", x.driver(work.driver, 3), 1);
            x.tick();
            due.is(when + ": no other refusal", x.driver(work.driver, 3), 1);
        }
    }

    /** "until ... its end": one that was restarted is not bad. */
    private static void badnessEndsWithTheDriver(Due due, int d) {
        for (int k = 2; k <= 3; k++) {
            RebornDrivers x = new RebornDrivers(3);
            x.fault(d, k);
            due.taken("bad: fault(d, 0)", x.fault(d, 0));
            due.ticks("restarted", x, 0, 0);
            due.driver("killed while bad", x, d, 1, 0, -1, 0, 1);

            RebornDrivers y = new RebornDrivers(3);
            y.fault(d, k);
            due.taken("bad: fault(d, 1)", y.fault(d, 1));
            due.ticks("to NOW 5", y, 0, 0, 0, 0, 0);
            due.driver("hung while bad: it takes no step", y, d, 0, 1, -1, 0, 0);
            due.ticks("to NOW 7", y, 0, 0);
            due.driver("hung while bad, restarted", y, d, 1, 0, -1, 0, 1);
        }
    }

    /** A driver that is bad answers its ping before it is refused. */
    private static void badAndPinged(Due due, int d) {
        for (int k = 2; k <= 3; k++) {
            RebornDrivers x = new RebornDrivers(2);
            due.ticks("NOW 1", x, 0);
            x.fault(d, k);
            due.ticks("NOW 2", x, 0);
            due.driver("pinged, answered, refused", x, d, 0, k == 2 ? 0 : 2, -1, 1, 1);
        }
    }

    /** The disk may die after it has brought the value to the device; the new one brings it once more. */
    private static void aWriteIsRepeated(Due due) {
        RebornDrivers x = Work.WRITING.at(2, 20);
        due.is("device(1)", x.device(1), 10);
        x.fault(0, 0);
        due.ticks("given anew", x, 0);
        due.slot("still dirty", x, 0, 1, 10, 1);
        due.ticks("done", x, 0, 0, 1);
        due.slot("clean", x, 0, 1, 10, 0);
        due.is("one request", x.result(0), 1);
    }
}
