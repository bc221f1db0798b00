/** Promise 13: output. */
public final class Promise13OutputTest {
    public static void main(String[] args) {
        Due due = new Due();
        eachCharacter(due);
        noneBeforeTheFirst(due);
        noneBehindTheLast(due);
        asManyAs512CallsAllow(due);
        moreThanAreKept(due);
        due.end();
    }

    private static void eachCharacter(Due due) {
        RebornDrivers x = new RebornDrivers(20);
        for (int i = 0; i < 60; i++) {
            x.print(0, 126 - i);
            due.ticks("print", x, 0, 0, 0, 1);
            due.is("output(-1)", x.output(-1), i + 1);
            due.is("output(" + i + ")", x.output(i), 126 - i);
        }
        for (int i = 0; i < 60; i++) {
            due.is("output(" + i + ") of 60", x.output(i), 126 - i);
        }
    }

    /** "with i = -1 how many it has; -2 if there is none" */
    private static void noneBeforeTheFirst(Due due) {
        RebornDrivers x = new RebornDrivers(20);
        due.is("empty: output(-1)", x.output(-1), 0);
        due.is("empty: output(0)", x.output(0), -2);
        due.is("empty: output(-2)", x.output(-2), -2);
        x.print(0, 65);
        for (int i = 0; i < 3; i++) {
            due.is("not put out yet: output(-1)", x.output(-1), 0);
            due.is("not put out yet: output(0)", x.output(0), -2);
            x.tick();
        }
        due.is("one: output(-1)", x.output(-1), 1);
        due.is("one: output(0)", x.output(0), 65);
        due.is("one: output(1)", x.output(1), -2);
        for (int i : new int[] {-2, -3, -65, -200, -256, -257, Integer.MIN_VALUE, Integer.MIN_VALUE + 1}) {
            due.is("one: output(" + i + ")", x.output(i), -2);
        }
    }

    /** "-2 if there is none": the first i behind the last character, and all that are greater */
    private static void noneBehindTheLast(Due due) {
        for (int count = 0; count <= 4; count++) {
            RebornDrivers x = new RebornDrivers(20);
            for (int u = 0; u < count; u++) {
                x.print(u, 32 + u);
            }
            Situation.ticked(x, 13);
            due.is(count + ": output(-1)", x.output(-1), count);
            for (int i = 0; i < count; i++) {
                due.is(count + ": output(" + i + ")", x.output(i), 32 + i);
            }
            for (int i : Edges.outside(-1, count - 1)) {
                due.is(count + ": output(" + i + ")", x.output(i), -2);
            }
            for (int i = count; i <= 202; i++) {
                due.is(count + ": output(" + i + ")", x.output(i), -2);
            }
        }
    }

    /** Of the 512 calls a character takes one print and three ticks: 126 characters, 505 calls, are all kept. */
    private static void asManyAs512CallsAllow(Due due) {
        RebornDrivers x = new RebornDrivers(20);
        x.print(0, 32);
        x.tick();
        for (int i = 1; i <= 126; i++) {
            if (i < 126) {
                x.print(i % 4, 32 + i % 95);
            }
            due.ticks("character " + (i - 1), x, 0, 0, 1);
        }
        due.is("output(-1)", x.output(-1), 126);
        due.is("output(0)", x.output(0), 32);
        due.is("output(94)", x.output(94), 126);
        due.is("output(95)", x.output(95), 32);
        due.is("output(125)", x.output(125), 62);
        due.is("output(126)", x.output(126), -2);
    }

    /**
     * "Of more than 200 the first 200 are kept, and are all it has." That many take more than 512 calls, behind which
     * the document leaves all answers free; this program holds to the sentence there too.
     */
    private static void moreThanAreKept(Due due) {
        RebornDrivers x = new RebornDrivers(20);
        for (int i = 1; i <= 203; i++) {
            x.print(0, 32 + i % 90);
            due.ticks("character " + i, x, 0, 0, 0, 1);
            due.is("of " + i + ": output(-1)", x.output(-1), Math.min(i, 200));
        }
        for (int i = 0; i < 200; i++) {
            due.is("of 203: output(" + i + ")", x.output(i), 32 + (i + 1) % 90);
        }
        for (int i = 200; i <= 203; i++) {
            due.is("of 203: output(" + i + ")", x.output(i), -2);
        }
    }
}
