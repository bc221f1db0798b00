/** What the promises on read, write, sync and print have in common: when a user may begin. */
final class Beginning {
    /** The call of the face by which a user begins. */
    interface Call {
        boolean by(RebornDrivers x, int u);
    }

    /** Such a call that names a block. */
    interface BlockCall {
        boolean by(RebornDrivers x, int u, int b);
    }

    private interface Steps {
        void of(RebornDrivers x, int u);
    }

    /** An operation that a user has begun, and how many ticks it takes to its end. */
    private enum Begun {
        READ_FROM_THE_DISK(4, (x, u) -> x.read(u, 1)),
        READ_FROM_THE_CACHE(1, (x, u) -> {
            x.write(u, 1, 10);
            x.tick();
            x.read(u, 1);
        }),
        WRITE(1, (x, u) -> x.write(u, 1, 10)),
        SYNC_OF_NO_SLOT(1, (x, u) -> x.sync(u)),
        SYNC_OF_ONE_SLOT(4, (x, u) -> {
            x.write(u, 1, 10);
            x.tick();
            x.sync(u);
        }),
        PRINT(4, (x, u) -> x.print(u, 65)),
        PRINT_THAT_FAILS(1, (x, u) -> {
            x.print(u, 65);
            x.tick();
            x.fault(1, 0);
        }),
        WRITE_BEHIND_A_READ(5, (x, u) -> {
            x.read(3 - u, 1);
            x.write(u, 2, 20);
        }),
        PRINT_BEHIND_A_PRINT(7, (x, u) -> {
            x.print(3 - u, 65);
            x.print(u, 66);
        });

        private final int ticks;
        private final Steps steps;

        Begun(int ticks, Steps steps) {
            this.ticks = ticks;
            this.steps = steps;
        }

        private RebornDrivers by(int u, int ticksAfter) {
            RebornDrivers x = new RebornDrivers(20);
            steps.of(x, u);
            return Situation.ticked(x, ticksAfter);
        }
    }

    private Beginning() {
    }

    /** "if there is no user u": users are 0 .. 3. */
    static void isForUsersAlone(Due due, String name, Call call) {
        for (int u = 0; u < 4; u++) {
            RebornDrivers x = new RebornDrivers(20);
            due.taken(name + " by user " + u, call.by(x, u));
            for (int other = 0; other < 4; other++) {
                due.is(name + " by user " + u + ": state(" + other + ")", x.state(other), other == u ? 1 : 0);
            }
        }
        for (int u : Edges.NO_USERS) {
            Refusal.inEachSituation(due, name + " by user " + u, x -> call.by(x, u));
        }
    }

    /** "or no block b": blocks are 0 .. 15, and block 0 is another thing than an empty slot. */
    static void isForBlocksAlone(Due due, String name, BlockCall call) {
        for (int b = 0; b < 16; b++) {
            RebornDrivers x = new RebornDrivers(20);
            due.taken(name + ", block " + b, call.by(x, 3, b));
            due.is(name + ", block " + b + ": line(0)", x.line(0), 1);
            Situation.ticked(x, 4);
            due.is(name + ", block " + b + ": state(3)", x.state(3), 2);
            due.is(name + ", block " + b + ": slot(0, 0)", x.slot(0, 0), b);
        }
        for (int b : Edges.NO_BLOCKS) {
            Refusal.inEachSituation(due, name + " by user 0, block " + b, x -> call.by(x, 0, b));
            Refusal.inEachSituation(due, name + " by user 3, block " + b, x -> call.by(x, 3, b));
        }
        for (int u : Edges.NO_USERS) {
            Refusal.check(due, name + " by user " + u + ", block 16", Situation::allHaveEnded, x -> call.by(x, u, 16));
        }
    }

    /** "or u has an operation pending": from its begin to the tick before its end, whatever operation it is. */
    static void waitsForTheEnd(Due due, String name, Call call) {
        for (Begun begun : Begun.values()) {
            for (int u : new int[] {0, 3}) {
                isRefusedUntilTheEnd(due, name + " by user " + u + " after " + begun, begun, u, call);
            }
        }
    }

    private static void isRefusedUntilTheEnd(Due due, String name, Begun begun, int u, Call call) {
        for (int i = 0; i < begun.ticks; i++) {
            int ticks = i;
            Refusal.check(due, name + " and " + ticks + " ticks", () -> begun.by(u, ticks), x -> call.by(x, u));
        }
        RebornDrivers pending = begun.by(u, begun.ticks - 1);
        due.taken(name + ", but by user 1", call.by(pending, 1));
        RebornDrivers ended = begun.by(u, begun.ticks);
        due.taken(name + " and its end", call.by(ended, u));
        due.is(name + " and its end: state(" + u + ")", ended.state(u), 1);
        due.is(name + " and its end: result(" + u + ")", ended.result(u), 0);
    }
}
