/** Terms, "GIVEN": to a driver that is dead, that hangs, and that dies with the request, of both servers. */
public final class TermsGivenTest {
    public static void main(String[] args) {
        Due due = new Due();
        for (Work work : Work.values()) {
            aDeadDriverIsGivenNothing(due, work);
            aHungDriverIsGivenARequest(due, work);
            givenStaysGivenThoughTheDriverDies(due, work);
        }
        due.end();
    }

    /** "if the driver is dead, the request is not given (any more)" */
    private static void aDeadDriverIsGivenNothing(Due due, Work work) {
        RebornDrivers x = work.at(-1, 20);
        x.fault(work.driver, 3);
        due.ticks(work + ", not given", x, 0);
        due.is(work + ", not given: request", x.request(work.driver), 1);
        due.driver(work + ", not given", x, work.driver, 0, 2, -1, 1, 1);
        due.is(work + ", not given: state(0)", x.state(0), 1);
        due.ticks(work + ", given", x, 0);
        due.is(work + ", given: request", x.request(work.driver), 2);
        due.driver(work + ", given", x, work.driver, 1, 0, 0, 1, 1);
        due.ticks(work + ", done", x, 0, 0, 1);
        due.is(work + ", done: result(0)", x.result(0), work.result());
    }

    /** "Otherwise the driver has that request, at stage 0, not answered": also one that hangs. */
    private static void aHungDriverIsGivenARequest(Due due, Work work) {
        RebornDrivers x = work.at(-1, 20);
        x.fault(work.driver, 1);
        due.ticks(work + " given to one that hangs", x, 0);
        due.is(work + " given to one that hangs: request", x.request(work.driver), 2);
        due.driver(work + " given to one that hangs", x, work.driver, 0, 1, 0, 0);
    }

    /** "it was given to the driver's endpoint": the server learns of a death only when another one is published. */
    private static void givenStaysGivenThoughTheDriverDies(Due due, Work work) {
        boolean fails = work == Work.PRINTING;
        RebornDrivers x = work.at(1, 20);
        x.fault(work.driver, 3);
        due.ticks(work + ", the driver dies in the tick", x, 0);
        due.is(work + ", dead: condition", x.driver(work.driver, 1), 2);
        due.is(work + ", dead: request", x.request(work.driver), 2);
        due.is(work + ", dead: state(0)", x.state(0), 1);
        due.ticks(work + ", restarted", x, fails ? 1 : 0);
        due.is(work + ", restarted: request", x.request(work.driver), fails ? 0 : 2);
        due.is(work + ", restarted: state(0)", x.state(0), fails ? 3 : 1);
    }
}
