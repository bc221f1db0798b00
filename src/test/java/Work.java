/** What a driver can be kept busy with. */
enum Work {
    READING(0), WRITING(0), PRINTING(1);

    /** The driver that works, which is also the number of the server that it works for. */
    final int driver;

    Work(int driver) {
        this.driver = driver;
    }

    /**
     * A new object of which user 0 has begun this work, which the driver has at the stage that is told, or, at -1, does
     * not have yet. READING is of block 1, which is 10 on the device and in no slot, WRITING of 10 to block 1, PRINTING
     * of 65. After stage 2 comes, as 3, the end.
     */
    RebornDrivers at(int stage, int h) {
        RebornDrivers x = new RebornDrivers(h);
        if (this == PRINTING) {
            x.print(0, 65);
        } else {
            x.write(1, 1, 10);
            x.tick();
            if (this == READING) {
                putOutOfTheCache(x);
                x.read(0, 1);
            } else {
                x.sync(0);
            }
        }
        return Situation.ticked(x, stage + 1);
    }

    private static void putOutOfTheCache(RebornDrivers x) {
        x.sync(1);
        x.read(2, 2);
        x.read(3, 3);
        Situation.ticked(x, 12);
        x.read(1, 4);
        Situation.ticked(x, 4);
    }

    /** What user 0's operation comes to. */
    int result() {
        return this == READING ? 10 : this == WRITING ? 1 : 0;
    }

    /** Whether what can be seen of the work from outside, the device's block or the character, is as told. */
    void isCarriedOut(Due due, String when, RebornDrivers x, boolean done) {
        if (this == WRITING) {
            due.is(when + ": device(1)", x.device(1), done ? 10 : 0);
        } else if (this == PRINTING) {
            due.is(when + ": output(-1)", x.output(-1), done ? 1 : 0);
        }
    }
}
