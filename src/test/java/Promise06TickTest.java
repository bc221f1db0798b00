/** Promise 6: tick, with the order of what happens in it. */
public final class Promise06TickTest {
    public static void main(String[] args) {
        Due due = new Due();
        countsBothServers(due);
        countsAFailure(due);
        oneFileOperationATick(due);
        pingsAndAnswersInOneTick(due);
        aDeadDriverIsRestartedAndGivenToInOneTick(due);
        aSilentDriverIsRestarted(due);
        aKilledHungDriverIsNotPingedWhenRestarted(due);
        aRequestStaysGivenWhileTheDriverHangs(due);
        aRequestThatCouldNotBeGivenIsGivenLater(due);
        due.end();
    }

    private static void countsBothServers(Due due) {
        RebornDrivers x = new RebornDrivers(20);
        due.ticks("nothing to do", x, 0);
        x.print(0, 65);
        due.ticks("the print goes on", x, 0, 0, 0);
        x.write(1, 1, 1);
        due.ticks("a write and the print are done", x, 2);
        due.ticks("nothing to do", x, 0);
    }

    private static void countsAFailure(Due due) {
        RebornDrivers x = new RebornDrivers(20);
        x.print(0, 65);
        due.ticks("the print goes on", x, 0);
        x.fault(1, 0);
        x.sync(1);
        due.ticks("the sync is done, the print has failed", x, 2);
        due.is("state(0)", x.state(0), 3);
        due.is("state(1)", x.state(1), 2);
    }

    private static void oneFileOperationATick(Due due) {
        RebornDrivers x = new RebornDrivers(20);
        x.sync(3);
        x.write(2, 1, 1);
        x.read(1, 1);
        x.sync(0);
        due.ticks("one a tick", x, 1);
        due.is("first begun, first done", x.state(3), 2);
        due.is("the others wait", x.state(2) + x.state(1) + x.state(0), 3);
        due.ticks("one a tick", x, 1, 1);
        due.is("state(1)", x.state(1), 2);
        due.is("state(0)", x.state(0), 1);
        due.ticks("the last sync writes", x, 0, 0, 0, 1);
    }

    private static void pingsAndAnswersInOneTick(Due due) {
        RebornDrivers x = new RebornDrivers(2);
        for (int i = 0; i < 10; i++) {
            due.ticks("idle", x, 0);
            due.driver("idle", x, 0, 0, 0, -1, 0, 1);
            due.driver("idle", x, 1, 0, 0, -1, 0, 1);
        }
    }

    private static void aDeadDriverIsRestartedAndGivenToInOneTick(Due due) {
        RebornDrivers x = new RebornDrivers(20);
        x.read(0, 1);
        due.ticks("given", x, 0, 0);
        due.is("stage 1", x.driver(0, 2), 1);
        x.fault(0, 0);
        due.driver("dead", x, 0, 0, 2, -1, 0, 1);
        due.ticks("restarted and given", x, 0);
        due.driver("restarted and given", x, 0, 1, 0, 0, 0, 1);
        x.fault(0, 0);
        due.ticks("again", x, 0);
        due.driver("again", x, 0, 2, 0, 0, 0, 1);
        due.ticks("done", x, 0, 0, 1);
        due.driver("the console is as it was", x, 1, 0, 0, -1, 0, 1);
    }

    private static void aSilentDriverIsRestarted(Due due) {
        RebornDrivers x = new RebornDrivers(3);
        due.ticks("to NOW 3, where it is pinged and answers", x, 0, 0, 0);
        x.fault(0, 1);
        x.fault(1, 1);
        due.ticks("to NOW 5", x, 0, 0);
        due.driver("hung, not pinged yet", x, 0, 0, 1, -1, 0, 1);
        due.ticks("NOW 6", x, 0);
        due.driver("pinged", x, 0, 0, 1, -1, 0, 0);
        due.driver("pinged", x, 1, 0, 1, -1, 0, 0);
        due.ticks("to NOW 8", x, 0, 0);
        due.driver("not restarted yet", x, 0, 0, 1, -1, 0, 0);
        due.ticks("NOW 9", x, 0);
        due.driver("restarted", x, 0, 1, 0, -1, 0, 1);
        due.driver("restarted", x, 1, 1, 0, -1, 0, 1);
        x.fault(0, 1);
        due.ticks("to NOW 12", x, 0, 0, 0);
        due.driver("hung again, pinged", x, 0, 1, 1, -1, 0, 0);
        due.driver("alive, pinged, has answered", x, 1, 1, 0, -1, 0, 1);
    }

    private static void aKilledHungDriverIsNotPingedWhenRestarted(Due due) {
        RebornDrivers x = new RebornDrivers(2);
        x.fault(0, 1);
        due.ticks("NOW 2", x, 0, 0);
        due.driver("pinged", x, 0, 0, 1, -1, 0, 0);
        x.fault(0, 0);
        due.driver("dead, still not answered", x, 0, 0, 2, -1, 0, 0);
        due.ticks("NOW 3", x, 0);
        due.driver("restarted, between two pings", x, 0, 1, 0, -1, 0, 1);
        x.fault(0, 0);
        due.ticks("NOW 4", x, 0);
        due.driver("restarted once, at a ping's time", x, 0, 2, 0, -1, 0, 1);
    }

    private static void aRequestStaysGivenWhileTheDriverHangs(Due due) {
        RebornDrivers x = new RebornDrivers(4);
        x.fault(0, 1);
        x.fault(1, 1);
        x.read(0, 1);
        x.print(1, 65);
        due.ticks("given to hung drivers", x, 0);
        due.driver("hung with a request", x, 0, 0, 1, 0, 0, 1);
        due.driver("hung with a request", x, 1, 0, 1, 0, 0, 1);
        due.ticks("to NOW 7", x, 0, 0, 0, 0, 0, 0);
        due.driver("hung with a request", x, 0, 0, 1, 0, 0, 0);
        due.is("request(0)", x.request(0), 2);
        due.ticks("NOW 8: the print has failed", x, 1);
        due.is("state(1)", x.state(1), 3);
        due.is("request(1)", x.request(1), 0);
        due.driver("the read is given anew", x, 0, 1, 0, 0, 0, 1);
        due.driver("the console has nothing to do", x, 1, 1, 0, -1, 0, 1);
        due.ticks("the read is done", x, 0, 0, 1);
        due.is("output(-1)", x.output(-1), 0);
    }

    private static void aRequestThatCouldNotBeGivenIsGivenLater(Due due) {
        RebornDrivers x = new RebornDrivers(20);
        x.fault(0, 3);
        x.read(0, 1);
        due.ticks("the disk dies before the request is made", x, 0);
        due.driver("dead", x, 0, 0, 2, -1, 1, 1);
        due.is("request(0)", x.request(0), 1);
        due.ticks("restarted, given", x, 0);
        due.driver("restarted, given", x, 0, 1, 0, 0, 1, 1);
        due.is("request(0)", x.request(0), 2);
        due.ticks("done", x, 0, 0, 1);
        due.is("request(0)", x.request(0), 0);
    }
}
