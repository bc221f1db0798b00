/** Promise 5: print. */
public final class Promise05PrintTest {
    public static void main(String[] args) {
        Due due = new Due();
        oneAfterTheOther(due);
        failsWhenTheConsoleIsRestarted(due);
        waitsForADeadConsole(due);
        wrongInputs(due);
        due.end();
    }

    private static void oneAfterTheOther(Due due) {
        RebornDrivers x = new RebornDrivers(20);
        due.taken("print(3, 32)", x.print(3, 32));
        due.taken("print(0, 126)", x.print(0, 126));
        due.is("line(1)", x.line(1), 2);
        due.is("line(0)", x.line(0), 0);
        due.ticks("given", x, 0);
        due.is("driver(1, 2)", x.driver(1, 2), 0);
        due.ticks("stage 1", x, 0);
        due.is("nothing out yet", x.output(-1), 0);
        due.ticks("stage 2", x, 0);
        due.is("put out", x.output(-1), 1);
        due.is("state(3)", x.state(3), 1);
        due.ticks("answered", x, 1);
        due.is("state(3)", x.state(3), 2);
        due.is("the next is given at once", x.request(1), 2);
        due.ticks("the next", x, 0, 0, 1);
        due.is("output(0)", x.output(0), 32);
        due.is("output(1)", x.output(1), 126);
        due.is("line(1)", x.line(1), 0);
        due.is("request(1)", x.request(1), 0);
    }

    /** Before stage 2 the character is lost, after it it is out; the operation fails in both cases. */
    private static void failsWhenTheConsoleIsRestarted(Due due) {
        for (int stage = 0; stage <= 2; stage++) {
            RebornDrivers x = new RebornDrivers(20);
            x.print(0, 70);
            x.print(1, 71);
            for (int i = 0; i <= stage; i++) {
                due.ticks("before the death", x, 0);
            }
            due.is("driver(1, 2)", x.driver(1, 2), stage);
            x.fault(1, 0);
            due.ticks("the first fails", x, 1);
            due.is("state(0)", x.state(0), 3);
            due.is("state(1)", x.state(1), 1);
            due.is("line(1)", x.line(1), 1);
            due.ticks("the second", x, 0, 0, 1);
            due.is("state(1)", x.state(1), 2);
            int out = stage == 2 ? 2 : 1;
            due.is("output(-1)", x.output(-1), out);
            due.is("the last one", x.output(out - 1), 71);
            due.taken("print after a failure", x.print(0, 72));
        }
    }

    private static void waitsForADeadConsole(Due due) {
        RebornDrivers x = new RebornDrivers(20);
        x.fault(1, 3);
        x.print(0, 70);
        due.ticks("not given", x, 0);
        due.is("request(1)", x.request(1), 1);
        due.ticks("given, put out, answered", x, 0, 0, 0, 1);
        due.is("state(0)", x.state(0), 2);
        due.is("output(0)", x.output(0), 70);
    }

    private static void wrongInputs(Due due) {
        RebornDrivers x = new RebornDrivers(20);
        for (int u : Due.NO_SUCH_USERS) {
            due.refused("print(" + u + ", 65)", x.print(u, 65));
        }
        for (int c : new int[] {31, 127, 0, -1, 10, 128, 32 + 256, Integer.MIN_VALUE, Integer.MAX_VALUE}) {
            due.refused("print(0, " + c + ")", x.print(0, c));
        }
        due.is("nothing begun: state(0)", x.state(0), 0);
        due.is("nothing begun: line(1)", x.line(1), 0);
        x.print(0, 65);
        x.sync(1);
        due.refused("print while printing", x.print(0, 66));
        due.refused("print while syncing", x.print(1, 66));
        due.is("line(1)", x.line(1), 1);
        due.ticks("the print", x, 1, 0, 0, 1);
        due.is("output(0)", x.output(0), 65);
        due.is("output(-1)", x.output(-1), 1);
    }
}
