/** Promise 5: print. */
public final class Promise05PrintTest {
    public static void main(String[] args) {
        Due due = new Due();
        oneAfterTheOther(due);
        failsWhenTheConsoleIsRestarted(due);
        waitsForADeadConsole(due);
        Beginning.isForUsersAlone(due, "print of 32", (x, u) -> x.print(u, 32));
        Beginning.isForUsersAlone(due, "print of 126", (x, u) -> x.print(u, 126));
        charactersAre32To126(due);
        Beginning.waitsForTheEnd(due, "print of 66", (x, u) -> x.print(u, 66));
        due.end();
    }

    private static void oneAfterTheOther(Due due) {
        RebornDrivers x = new RebornDrivers(20);
        due.taken("print(3, 32)", x.print(3, 32));
        due.taken("print(0, 126)", x.print(0, 126));
        due.is("line(1)", x.line(1), 2);
        due.is("line(0)", x.line(0), 0);
        due.ticks("given", x, 0);
        due.is("driver(1, 2)", x.driver(1, 2), 0);
        due.ticks("stage 1", x, 0);
        due.is("nothing out yet", x.output(-1), 0);
        due.ticks("stage 2", x, 0);
        due.is("put out", x.output(-1), 1);
        due.is("state(3)", x.state(3), 1);
        due.ticks("answered", x, 1);
        due.is("state(3)", x.state(3), 2);
        due.is("the next is given at once", x.request(1), 2);
        due.ticks("the next", x, 0, 0, 1);
        due.is("output(0)", x.output(0), 32);
        due.is("output(1)", x.output(1), 126);
        due.is("line(1)", x.line(1), 0);
        due.is("request(1)", x.request(1), 0);
    }

    /** Before stage 2 the character is lost, after it it is out; the operation fails in both cases. */
    private static void failsWhenTheConsoleIsRestarted(Due due) {
        for (int stage = 0; stage <= 2; stage++) {
            RebornDrivers x = new RebornDrivers(20);
            x.print(0, 70);
            x.print(1, 71);
            for (int i = 0; i <= stage; i++) {
                due.ticks("before the death", x, 0);
            }
            due.is("driver(1, 2)", x.driver(1, 2), stage);
            x.fault(1, 0);
            due.ticks("the first fails", x, 1);
            due.is("state(0)", x.state(0), 3);
            due.is("state(1)", x.state(1), 1);
            due.is("line(1)", x.line(1), 1);
            due.ticks("the second", x, 0, 0, 1);
            due.is("state(1)", x.state(1), 2);
            int out = stage == 2 ? 2 : 1;
            due.is("output(-1)", x.output(-1), out);
            due.is("the last one", x.output(out - 1), 71);
            due.taken("print after a failure", x.print(0, 72));
        }
    }

    private static void waitsForADeadConsole(Due due) {
        RebornDrivers x = new RebornDrivers(20);
        x.fault(1, 3);
        x.print(0, 70);
        due.ticks("not given", x, 0);
        due.is("request(1)", x.request(1), 1);
        due.ticks("given, put out, answered", x, 0, 0, 0, 1);
        due.is("state(0)", x.state(0), 2);
        due.is("output(0)", x.output(0), 70);
    }

    /** "c is not 32 .. 126" */
    private static void charactersAre32To126(Due due) {
        for (int c = 32; c <= 126; c++) {
            RebornDrivers x = new RebornDrivers(20);
            due.taken("print(3, " + c + ")", x.print(3, c));
            due.ticks("print(3, " + c + ")", x, 0, 0, 0, 1);
            due.is("print(3, " + c + "): output(0)", x.output(0), c);
        }
        for (int c : Edges.NO_CHARACTERS) {
            Refusal.inEachSituation(due, "print(0, " + c + ")", x -> x.print(0, c));
            Refusal.inEachSituation(due, "print(3, " + c + ")", x -> x.print(3, c));
        }
        for (int c : new int[] {0, 10, 13, 27}) {
            Refusal.check(due, "print(0, " + c + ")", Situation::allHaveEnded, x -> x.print(0, c));
        }
        for (int u : Edges.NO_USERS) {
            Refusal.check(due, "print(" + u + ", 31)", Situation::allHaveEnded, x -> x.print(u, 31));
        }
    }
}
