/** Terms, "1. REINCARNATION": when a driver is restarted, when it is pinged, and what a restart leaves. */
public final class TermsReincarnationTest {
    public static void main(String[] args) {
        Due due = new Due();
        for (int d = 0; d < 2; d++) {
            for (int h = 2; h <= 20; h++) {
                aDeadOneIsRestartedAtAnyTime(due, d, h);
                aHungOneIsPingedThenRestarted(due, d, h);
            }
            aLivingOneIsNeverRestarted(due, d);
            aKilledOneHasNotToAnswer(due, d);
            anAnswerIsForTheLatestPing(due, d);
            aRestartLeavesNothingButRefusals(due, d);
        }
        due.end();
    }

    /** "if it is dead, it is restarted; otherwise, if NOW is a multiple of H": once, at a multiple and elsewhere. */
    private static void aDeadOneIsRestartedAtAnyTime(Due due, int d, int h) {
        RebornDrivers x = new RebornDrivers(h);
        for (int i = 1; i <= h + 1; i++) {
            x.fault(d, 0);
            due.driver("h " + h + ", dead", x, d, i - 1, 2, -1, 0, 1);
            due.ticks("h " + h, x, 0);
            due.driver("h " + h + ", restarted at " + i, x, d, i, 0, -1, 0, 1);
            due.is("h " + h + ", the other's endpoint", x.driver(1 - d, 0), 0);
        }
    }

    /**
     * "if it has not answered the latest ping, it is restarted, otherwise it is pinged (it has not answered then)": one
     * that hangs just before a multiple of H, or just behind it, is pinged at the next multiple and restarted at the
     * one behind that.
     */
    private static void aHungOneIsPingedThenRestarted(Due due, int d, int h) {
        for (int from = h - 1; from <= h; from++) {
            String when = "h " + h + ", hung from " + from;
            RebornDrivers x = Situation.ticked(new RebornDrivers(h), from);
            x.fault(d, 1);
            int pingedAt = from < h ? h : 2 * h;
            while (x.now() < pingedAt + h) {
                due.driver(when + " at " + x.now(), x, d, 0, 1, -1, 0, x.now() < pingedAt ? 1 : 0);
                due.ticks(when, x, 0);
            }
            due.driver(when + ", restarted", x, d, 1, 0, -1, 0, 1);
            due.driver(when + ", the other", x, 1 - d, 0, 0, -1, 0, 1);
            Situation.ticked(x, h + 1);
            due.driver(when + ", it lives on", x, d, 1, 0, -1, 0, 1);
        }
    }

    private static void aLivingOneIsNeverRestarted(Due due, int d) {
        RebornDrivers x = new RebornDrivers(2);
        for (int i = 0; i < 50; i++) {
            due.ticks("alive", x, 0);
            due.driver("alive at " + x.now(), x, d, 0, 0, -1, 0, 1);
        }
    }

    /** One that has not answered and is dead is restarted once, between two multiples of H and at one. */
    private static void aKilledOneHasNotToAnswer(Due due, int d) {
        RebornDrivers x = new RebornDrivers(2);
        x.fault(d, 1);
        due.ticks("NOW 2", x, 0, 0);
        x.fault(d, 0);
        due.driver("dead, the ping not answered", x, d, 0, 2, -1, 0, 0);
        due.ticks("NOW 3", x, 0);
        due.driver("restarted at 3", x, d, 1, 0, -1, 0, 1);

        RebornDrivers y = new RebornDrivers(2);
        y.fault(d, 1);
        due.ticks("NOW 3", y, 0, 0, 0);
        y.fault(d, 0);
        due.ticks("NOW 4", y, 0);
        due.driver("restarted once at 4", y, d, 1, 0, -1, 0, 1);
        due.ticks("NOW 6", y, 0, 0);
        due.driver("not again at 6", y, d, 1, 0, -1, 0, 1);
    }

    /** One that was restarted for its silence has nothing more to answer, and may fall silent again. */
    private static void anAnswerIsForTheLatestPing(Due due, int d) {
        RebornDrivers x = new RebornDrivers(3);
        for (int life = 0; life < 4; life++) {
            due.taken("fault(" + d + ", 1)", x.fault(d, 1));
            due.ticks("life " + life, x, 0, 0);
            due.driver("life " + life + ", not pinged yet", x, d, life, 1, -1, 0, 1);
            due.ticks("life " + life, x, 0);
            due.driver("life " + life + ", pinged", x, d, life, 1, -1, 0, 0);
            due.ticks("life " + life, x, 0, 0, 0);
            due.driver("life " + life + ", restarted", x, d, life + 1, 0, -1, 0, 1);
        }
    }

    /** "its endpoint grows by 1 and is published; it is alive, has no request, has answered, and is not bad" */
    private static void aRestartLeavesNothingButRefusals(Due due, int d) {
        RebornDrivers x = new RebornDrivers(2);
        x.fault(d, 2);
        due.ticks("refused", x, 0);
        Situation.asked(x);
        due.ticks("given", x, 0);
        x.fault(d, 3);
        x.fault(d, 1);
        Situation.ticked(x, 3);
        due.driver("hung with its request, pinged at 4", x, d, 0, 1, 0, 1, 0);
        x.tick();
        due.driver("restarted; the disk is given its request again", x, d, 1, 0, d == 0 ? 0 : -1, 1, 1);
        x.tick();
        due.driver("not bad", x, d, 1, 0, d == 0 ? 1 : -1, 1, 1);
    }
}
