/** Promise 15: request. */
public final class Promise15RequestTest {
    public static void main(String[] args) {
        Due due = new Due();
        for (int s = 0; s < 2; s++) {
            givenAtOnce(due, s);
            notGivenToADeadDriver(due, s);
        }
        noRequestForWhatIsInTheCache(due);
        serversAre0And1(due);
        due.end();
    }

    /** "-1 for another s" */
    private static void serversAre0And1(Due due) {
        for (Situation situation : Situation.values()) {
            RebornDrivers x = situation.make();
            for (int s : Edges.NO_SERVERS) {
                due.is(situation + ": request(" + s + ")", x.request(s), -1);
            }
        }
    }

    private static void begin(RebornDrivers x, int s) {
        if (s == 0) {
            x.read(0, 1);
        } else {
            x.print(0, 65);
        }
    }

    private static void givenAtOnce(Due due, int s) {
        RebornDrivers x = new RebornDrivers(20);
        due.is("none", x.request(s), 0);
        begin(x, s);
        due.is("begun", x.request(s), 0);
        for (int i = 0; i < 3; i++) {
            due.ticks("goes on", x, 0);
            due.is("given", x.request(s), 2);
            due.is("the other server", x.request(1 - s), 0);
        }
        due.ticks("answered", x, 1);
        due.is("none", x.request(s), 0);
    }

    private static void notGivenToADeadDriver(Due due, int s) {
        RebornDrivers x = new RebornDrivers(20);
        begin(x, s);
        x.fault(s, 3);
        due.ticks("the driver dies", x, 0);
        due.is("not given", x.request(s), 1);
        due.is("the other server", x.request(1 - s), 0);
        due.ticks("restarted", x, 0);
        due.is("given", x.request(s), 2);
        due.ticks("done", x, 0, 0, 1);
        due.is("state(0)", x.state(0), 2);
        due.is("none", x.request(s), 0);
    }

    private static void noRequestForWhatIsInTheCache(Due due) {
        RebornDrivers x = new RebornDrivers(20);
        x.write(0, 1, 1);
        due.ticks("write", x, 1);
        due.is("request(0)", x.request(0), 0);
        x.read(0, 1);
        due.ticks("read", x, 1);
        due.is("request(0)", x.request(0), 0);
    }
}
