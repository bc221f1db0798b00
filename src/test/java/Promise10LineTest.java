import java.util.stream.IntStream;

/** Promise 10: line. */
public final class Promise10LineTest {
    public static void main(String[] args) {
        Due due = new Due();
        fileLine(due);
        terminalLine(due);
        bothLines(due);
        inTheOrderInWhichTheyWereBegun(due);
        emptyToFull(due);
        linesAre0And1(due);
        due.end();
    }

    private static void fileLine(Due due) {
        RebornDrivers x = new RebornDrivers(20);
        x.write(3, 1, 1);
        x.read(1, 1);
        x.sync(0);
        x.write(2, 2, 2);
        due.is("four", x.line(0), 4);
        due.refused("read(3, 1)", x.read(3, 1));
        due.is("refused", x.line(0), 4);
        due.is("the other line", x.line(1), 0);
        due.ticks("the write", x, 1);
        due.is("three", x.line(0), 3);
        due.ticks("the read", x, 1);
        due.is("two", x.line(0), 2);
        x.read(3, 2);
        due.is("three", x.line(0), 3);
        due.ticks("the sync goes on", x, 0, 0, 0);
        due.is("it stands in the line until done", x.line(0), 3);
        due.ticks("the rest", x, 1, 1, 1);
        due.is("result(3), last in the line", x.result(3), 2);
        due.is("none", x.line(0), 0);
    }

    private static void terminalLine(Due due) {
        RebornDrivers x = new RebornDrivers(20);
        for (int u = 3; u >= 0; u--) {
            x.print(u, 65 + u);
        }
        due.is("four", x.line(1), 4);
        due.is("the other line", x.line(0), 0);
        due.ticks("the first", x, 0, 0, 0);
        due.is("it stands in the line until done", x.line(1), 4);
        due.ticks("the first is done", x, 1);
        due.is("three", x.line(1), 3);
        x.fault(1, 0);
        due.ticks("the second has failed", x, 1);
        due.is("two", x.line(1), 2);
        due.ticks("the rest", x, 0, 0, 1, 0, 0, 1);
        due.is("none", x.line(1), 0);
        due.is("in the order of the line", x.output(0), 68);
        due.is("in the order of the line", x.output(1), 66);
        due.is("in the order of the line", x.output(2), 65);
    }

    private static void bothLines(Due due) {
        RebornDrivers x = new RebornDrivers(20);
        x.print(0, 65);
        x.sync(1);
        x.print(2, 66);
        x.sync(3);
        due.is("line(0)", x.line(0), 2);
        due.is("line(1)", x.line(1), 2);
        due.ticks("both", x, 1, 1, 0, 1, 0, 0, 1);
        due.is("line(0)", x.line(0), 0);
        due.is("line(1)", x.line(1), 0);
    }

    /** "in the order in which they were begun", whichever of the 24 orders of the users that is */
    private static void inTheOrderInWhichTheyWereBegun(Due due) {
        for (int i = 0; i < 256; i++) {
            int[] users = {i & 3, i >> 2 & 3, i >> 4 & 3, i >> 6};
            if (IntStream.of(users).distinct().count() == 4) {
                isKept(due, users);
            }
        }
    }

    private static void isKept(Due due, int[] users) {
        RebornDrivers x = new RebornDrivers(20);
        RebornDrivers y = new RebornDrivers(20);
        for (int u : users) {
            x.write(u, 1, u);
            y.print(u, 70 + u);
        }
        due.ticks("the first is given", y, 0);
        for (int i = 0; i < 4; i++) {
            String when = "place " + i + ", user " + users[i];
            due.is(when + ", begun", x.state(users[i]) + y.state(users[i]), 2);
            due.ticks(when, x, 1);
            due.ticks(when, y, 0, 0, 1);
            due.is(when + ", done", x.state(users[i]) + y.state(users[i]), 4);
            due.is(when + ": slot(0, 1)", x.slot(0, 1), users[i]);
            due.is(when + ": output(" + i + ")", y.output(i), 70 + users[i]);
        }
    }

    /** A line has from none to all four users' operations. */
    private static void emptyToFull(Due due) {
        RebornDrivers x = new RebornDrivers(20);
        RebornDrivers y = new RebornDrivers(20);
        for (int u = 0; u < 4; u++) {
            due.is("before user " + u + ": line(0)", x.line(0), u);
            due.is("before user " + u + ": line(1)", y.line(1), u);
            x.sync(u);
            y.print(u, 65);
        }
        for (int u = 0; u < 4; u++) {
            due.is("full: line(0)", x.line(0), 4 - u);
            due.is("full: line(1)", y.line(1), 4 - u);
            x.tick();
            Situation.ticked(y, u == 0 ? 4 : 3);
        }
        due.is("empty: line(0)", x.line(0), 0);
        due.is("empty: line(1)", y.line(1), 0);
        due.ticks("empty", x, 0, 0);
        due.ticks("empty", y, 0, 0);
    }

    /** "-1 for another s" */
    private static void linesAre0And1(Due due) {
        for (Situation situation : Situation.values()) {
            RebornDrivers x = situation.make();
            for (int s : Edges.NO_SERVERS) {
                due.is(situation + ": line(" + s + ")", x.line(s), -1);
            }
        }
    }
}
