/** Compares answers with those that are due, prints each that differs, and ends with exit code 1 if there was one. */
final class Due {
    private int compared;
    private int wrong;

    void is(String call, long got, long want) {
        compared++;
        if (got != want) {
            wrong++;
            System.out.println(call + " answered " + got + ", due is " + want);
        }
    }

    void taken(String call, boolean got) {
        is(call, got ? 1 : 0, 1);
    }

    void refused(String call, boolean got) {
        is(call, got ? 1 : 0, 0);
    }

    /** One tick for each answer that is due. */
    void ticks(String when, RebornDrivers x, int... wants) {
        for (int i = 0; i < wants.length; i++) {
            is(when + ": tick " + (i + 1), x.tick(), wants[i]);
        }
    }

    /** Slot i holds what is told; an empty slot is told as block -1, value 0, not dirty. */
    void slot(String when, RebornDrivers x, int i, int block, int value, int dirty) {
        is(when + ": slot(" + i + ", 0)", x.slot(i, 0), block);
        is(when + ": slot(" + i + ", 1)", x.slot(i, 1), value);
        is(when + ": slot(" + i + ", 2)", x.slot(i, 2), dirty);
    }

    /** Driver d is as told: its endpoint, condition, stage, refusals, and whether it has answered. */
    void driver(String when, RebornDrivers x, int d, int... wants) {
        for (int k = 0; k < wants.length; k++) {
            is(when + ": driver(" + d + ", " + k + ")", x.driver(d, k), wants[k]);
        }
    }

    /** All that can be looked at of x is as that of y. */
    void same(String when, RebornDrivers x, RebornDrivers y) {
        Looks.ALL.forEach((look, asked) -> is(when + ": " + look, asked.applyAsInt(x), asked.applyAsInt(y)));
    }

    void end() {
        if (wrong != 0 || compared == 0) {
            System.out.println(wrong + " of " + compared + " answers are not as due");
            System.exit(1);
        }
        System.out.println("all " + compared + " answers are as due");
    }
}
