/** Promise 8: state. */
public final class Promise08StateTest {
    public static void main(String[] args) {
        Due due = new Due();
        RebornDrivers x = new RebornDrivers(20);
        states(due, "nothing begun", x, 0, 0, 0, 0);
        x.read(0, 1);
        states(due, "a read", x, 1, 0, 0, 0);
        x.write(1, 1, 1);
        x.sync(2);
        x.print(3, 65);
        states(due, "all begun", x, 1, 1, 1, 1);
        due.ticks("given", x, 0);
        x.fault(1, 0);
        due.ticks("the print fails", x, 1);
        states(due, "the print failed", x, 1, 1, 1, 3);
        due.ticks("the read is done", x, 0, 1);
        states(due, "the read is done", x, 2, 1, 1, 3);
        due.ticks("the write is done", x, 1);
        states(due, "the write is done", x, 2, 2, 1, 3);
        due.ticks("the sync is done", x, 0, 0, 0, 1);
        states(due, "the sync is done", x, 2, 2, 2, 3);
        x.read(3, 1);
        x.print(0, 66);
        states(due, "the latest operation counts", x, 1, 2, 2, 1);
        due.refused("read(0, 2)", x.read(0, 2));
        due.refused("write(1, 16, 0)", x.write(1, 16, 0));
        states(due, "refused calls change nothing", x, 1, 2, 2, 1);
        due.ticks("both", x, 1, 0, 0, 1);
        states(due, "all done", x, 2, 2, 2, 2);
        usersAre0To3(due);
        due.end();
    }

    /** "-1 if there is no user u" */
    private static void usersAre0To3(Due due) {
        states(due, "all have ended", Situation.allHaveEnded(), 2, 3, 2, 2);
        for (Situation situation : Situation.values()) {
            RebornDrivers x = situation.make();
            for (int u : Edges.NO_USERS) {
                due.is(situation + ": state(" + u + ")", x.state(u), -1);
            }
        }
    }

    private static void states(Due due, String when, RebornDrivers x, int... wants) {
        for (int u = 0; u < wants.length; u++) {
            due.is(when + ": state(" + u + ")", x.state(u), wants[u]);
        }
    }
}
