import java.util.function.Supplier;

/** Objects that differ in what a call that is due to be refused could disturb. */
enum Situation {
    NEW(() -> new RebornDrivers(5)),
    ALL_HAVE_ENDED(Situation::allHaveEnded),
    FILES_WAIT(() -> filesAsked(0)),
    FILES_ARE_SERVED(() -> filesAsked(1)),
    PRINTS_WAIT(() -> printsAsked(0)),
    PRINTS_ARE_SERVED(() -> printsAsked(2)),
    DRIVERS_WORK(() -> atWork(2)),
    DRIVERS_ARE_DEAD(() -> struck(atWork(2), 0)),
    DRIVERS_HANG(() -> struck(atWork(3), 1)),
    DRIVERS_ARE_PINGED_IN_VAIN(() -> ticked(struck(atWork(3), 1), 1)),
    DRIVERS_ARE_BAD_BY_A_SEND(() -> struck(atWork(1), 2)),
    DRIVERS_ARE_BAD_BY_A_GRANT(() -> struck(atWork(2), 3)),
    REQUESTS_ARE_NOT_GIVEN(() -> ticked(asked(struck(new RebornDrivers(4), 3)), 1));

    private final Supplier<RebornDrivers> made;

    Situation(Supplier<RebornDrivers> made) {
        this.made = made;
    }

    RebornDrivers make() {
        return made.get();
    }

    /** User 0 has read 70, user 1's print has failed, user 2 had three slots written, user 3 has made slot 1 dirty. */
    static RebornDrivers allHaveEnded() {
        RebornDrivers x = new RebornDrivers(20);
        x.write(0, 0, 70);
        x.write(1, 15, -5);
        x.write(2, 7, 3);
        ticked(x, 3);
        x.sync(2);
        x.print(1, 65);
        ticked(x, 3);
        x.fault(1, 0);
        ticked(x, 7);
        x.read(0, 0);
        x.write(3, 15, 9);
        return ticked(x, 2);
    }

    /** All users' operations stand in the file server's line. */
    static RebornDrivers filesAsked(int ticks) {
        RebornDrivers x = new RebornDrivers(20);
        x.read(2, 3);
        x.write(1, 4, 40);
        x.sync(0);
        x.read(3, 4);
        return ticked(x, ticks);
    }

    /** All users' operations stand in the terminal's line. */
    static RebornDrivers printsAsked(int ticks) {
        RebornDrivers x = new RebornDrivers(20);
        x.print(3, 32);
        x.print(0, 65);
        x.print(2, 66);
        x.print(1, 126);
        return ticked(x, ticks);
    }

    /** Both drivers have a request, at stage 0 after one tick; at the fourth they are pinged. */
    static RebornDrivers atWork(int ticks) {
        return ticked(asked(new RebornDrivers(4)), ticks);
    }

    static RebornDrivers asked(RebornDrivers x) {
        x.read(0, 1);
        x.print(1, 65);
        return x;
    }

    static RebornDrivers struck(RebornDrivers x, int k) {
        x.fault(0, k);
        x.fault(1, k);
        return x;
    }

    static RebornDrivers ticked(RebornDrivers x, int ticks) {
        for (int i = 0; i < ticks; i++) {
            x.tick();
        }
        return x;
    }
}
