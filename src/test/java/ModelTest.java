import java.util.Random;

/** Many runs of calls, the same each time, wrong inputs among them, answered as the model in Model.java answers. */
public final class ModelTest {
    private static final int RUNS = 2000;
    private static final int CALLS = 430;
    private static final int[] FAR = {Integer.MIN_VALUE, Integer.MAX_VALUE, -2, 256, 1 << 16};

    private final Due due;
    private final Random random;
    private final RebornDrivers x;
    private final Model y;
    private final String run;
    /** How many of 1000 calls are faults. */
    private final int faults;
    private final int blocks;

    private ModelTest(Due due, int seed) {
        this.due = due;
        random = new Random(seed);
        int h = random.nextInt(8) == 0 ? near(0, 22) : near(2, 7);
        x = new RebornDrivers(h);
        y = new Model(h);
        run = "run " + seed + " (h " + h + ")";
        faults = random.nextInt(4) * 40;
        blocks = random.nextBoolean() ? 16 : 5;
    }

    public static void main(String[] args) {
        Due due = new Due();
        for (int seed = 0; seed < RUNS; seed++) {
            ModelTest test = new ModelTest(due, seed);
            for (int i = 0; i < CALLS; i++) {
                test.call(test.run + " call " + i + ": ");
            }
            test.compareAll();
        }
        due.end();
    }

    /** Mostly least .. greatest, sometimes just outside, seldom far outside. */
    private int near(int least, int greatest) {
        int die = random.nextInt(100);
        if (die == 0) {
            return FAR[random.nextInt(FAR.length)];
        }
        if (die < 5) {
            return random.nextBoolean() ? least - 1 : greatest + 1;
        }
        return least + random.nextInt(greatest - least + 1);
    }

    private void call(String at) {
        int die = random.nextInt(1000);
        if (die < faults) {
            int d = near(0, 1);
            int k = near(0, 3);
            same(at + "fault(" + d + ", " + k + ")", x.fault(d, k), y.fault(d, k));
        } else if (die < 500) {
            due.is(at + "tick()", x.tick(), y.tick());
        } else if (die < 720) {
            begin(at);
        } else {
            look(at);
        }
    }

    private void begin(String at) {
        int u = near(0, 3);
        int b = near(0, blocks - 1);
        int v = random.nextBoolean() ? random.nextInt() : random.nextInt(9);
        int c = near(32, 126);
        switch (random.nextInt(8)) {
            case 0, 1 -> same(at + "read(" + u + ", " + b + ")", x.read(u, b), y.read(u, b));
            case 2, 3, 4 -> same(at + "write(" + u + ", " + b + ", " + v + ")", x.write(u, b, v), y.write(u, b, v));
            case 5 -> same(at + "sync(" + u + ")", x.sync(u), y.sync(u));
            default -> same(at + "print(" + u + ", " + c + ")", x.print(u, c), y.print(u, c));
        }
    }

    private void look(String at) {
        int i = near(0, 3);
        int k = near(0, 4);
        int b = near(0, blocks - 1);
        switch (random.nextInt(9)) {
            case 0 -> due.is(at + "state(" + i + ")", x.state(i), y.state(i));
            case 1 -> due.is(at + "result(" + i + ")", x.result(i), y.result(i));
            case 2 -> due.is(at + "line(" + i + ")", x.line(i), y.line(i));
            case 3 -> due.is(at + "device(" + b + ")", x.device(b), y.device(b));
            case 4 -> due.is(at + "slot(" + i + ", " + k + ")", x.slot(i, k), y.slot(i, k));
            case 5 -> due.is(at + "output(" + (b - 1) + ")", x.output(b - 1), y.output(b - 1));
            case 6 -> due.is(at + "driver(" + i + ", " + k + ")", x.driver(i, k), y.driver(i, k));
            case 7 -> due.is(at + "request(" + i + ")", x.request(i), y.request(i));
            default -> due.is(at + "now()", x.now(), y.now());
        }
    }

    /** Fewer than the calls that are left of 512. */
    private void compareAll() {
        for (int u = 0; u < 4; u++) {
            due.is(run + " ends: state(" + u + ")", x.state(u), y.state(u));
            due.is(run + " ends: result(" + u + ")", x.result(u), y.result(u));
        }
        for (int b = 0; b < 16; b++) {
            due.is(run + " ends: device(" + b + ")", x.device(b), y.device(b));
        }
        for (int i = 0; i < 3; i++) {
            due.slot(run + " ends", x, i, y.slot(i, 0), y.slot(i, 1), y.slot(i, 2));
        }
        for (int d = 0; d < 2; d++) {
            due.driver(run + " ends", x, d, y.driver(d, 0), y.driver(d, 1), y.driver(d, 2), y.driver(d, 3),
                    y.driver(d, 4));
            due.is(run + " ends: line(" + d + ")", x.line(d), y.line(d));
            due.is(run + " ends: request(" + d + ")", x.request(d), y.request(d));
        }
        int last = y.output(-1) - 1;
        due.is(run + " ends: output(-1)", x.output(-1), y.output(-1));
        due.is(run + " ends: output(" + last + ")", x.output(last), y.output(last));
    }

    private void same(String call, boolean got, boolean want) {
        due.is(call, got ? 1 : 0, want ? 1 : 0);
    }
}
