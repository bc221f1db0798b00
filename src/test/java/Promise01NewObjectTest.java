/** Promise 1: a new object stands at NOW 0 with nothing begun; H is h if that is 2 .. 20, otherwise 5. */
public final class Promise01NewObjectTest {
    public static void main(String[] args) {
        Due due = new Due();
        nothingBegun(due);
        for (int d = 0; d < 2; d++) {
            periodIs2To20(due, d);
            otherwise5(due, d);
        }
        objectsAreApart(due);
        due.end();
    }

    private static void nothingBegun(Due due) {
        RebornDrivers x = new RebornDrivers(5);
        due.is("now()", x.now(), 0);
        for (int u = 0; u < 4; u++) {
            due.is("state(" + u + ")", x.state(u), 0);
            due.is("result(" + u + ")", x.result(u), 0);
        }
        for (int b = 0; b < 16; b++) {
            due.is("device(" + b + ")", x.device(b), 0);
        }
        for (int i = 0; i < 3; i++) {
            due.slot("new", x, i, -1, 0, 0);
        }
        for (int k = 0; k < 2; k++) {
            due.is("line(" + k + ")", x.line(k), 0);
            due.is("request(" + k + ")", x.request(k), 0);
            due.driver("new", x, k, 0, 0, -1, 0, 1);
        }
        due.is("output(-1)", x.output(-1), 0);
        due.ticks("nothing begun", x, 0, 0, 0, 0, 0, 0);
    }

    /** "H is h if it is 2 .. 20" */
    private static void periodIs2To20(Due due, int d) {
        for (int h = 2; h <= 20; h++) {
            period(due, h, h, d);
        }
    }

    /** "otherwise 5" */
    private static void otherwise5(Due due, int d) {
        for (int h : Edges.outside(2, 20)) {
            period(due, h, 5, d);
        }
        for (int h : new int[] {1, 0, -1, -5, 21, 25, 40}) {
            period(due, h, 5, d);
        }
    }

    /** A driver that hangs from the start is pinged at H and, having not answered, restarted at 2 H. */
    private static void period(Due due, int h, int period, int d) {
        RebornDrivers x = new RebornDrivers(h);
        due.is("h " + h + ": now()", x.now(), 0);
        x.fault(d, 1);
        for (int i = 1; i < period; i++) {
            x.tick();
            due.is("h " + h + " at " + i + ": has answered", x.driver(d, 4), 1);
        }
        x.tick();
        due.is("h " + h + " at H: has answered", x.driver(d, 4), 0);
        for (int i = 1; i < period; i++) {
            x.tick();
            due.is("h " + h + " at H + " + i + ": endpoint", x.driver(d, 0), 0);
        }
        x.tick();
        due.driver("h " + h + " at 2 H", x, d, 1, 0, -1, 0, 1);
    }

    private static void objectsAreApart(Due due) {
        RebornDrivers x = new RebornDrivers(5);
        RebornDrivers y = new RebornDrivers(5);
        x.write(0, 1, 2);
        x.tick();
        due.is("of another object: now()", y.now(), 0);
        due.is("of another object: state(0)", y.state(0), 0);
        due.is("of another object: slot(0, 0)", y.slot(0, 0), -1);
    }
}
