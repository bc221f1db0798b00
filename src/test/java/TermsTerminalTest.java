/** Terms, "4. TERMINAL": when a print is given, done and failed, and that the next one follows at once. */
public final class TermsTerminalTest {
    public static void main(String[] args) {
        Due due = new Due();
        theNextIsGivenInTheTickOfTheAnswer(due);
        eachFailsAlone(due);
        anEmptyLine(due);
        notGivenIsNotFailed(due);
        due.end();
    }

    /** "Then, if its line is not empty: a request to put out the character of the operation at its head" */
    private static void theNextIsGivenInTheTickOfTheAnswer(Due due) {
        RebornDrivers x = Situation.printsAsked(0);
        int[] users = {3, 0, 2, 1};
        due.ticks("the first is given", x, 0);
        for (int i = 0; i < 4; i++) {
            due.is("line(1)", x.line(1), 4 - i);
            due.is("given: request(1)", x.request(1), 2);
            due.is("given: driver(1, 2)", x.driver(1, 2), 0);
            due.ticks("print " + i, x, 0, 0, 1);
            due.is("state(" + users[i] + ")", x.state(users[i]), 2);
        }
        due.is("the last: request(1)", x.request(1), 0);
        due.is("the last: driver(1, 2)", x.driver(1, 2), -1);
        int[] characters = {32, 65, 66, 126};
        for (int i = 0; i < 4; i++) {
            due.is("output(" + i + ")", x.output(i), characters[i]);
        }
    }

    /** "that operation has failed, and there is no request any more", and the next one is given to the new console. */
    private static void eachFailsAlone(Due due) {
        RebornDrivers x = Situation.printsAsked(1);
        int[] users = {3, 0, 2, 1};
        for (int i = 0; i < 4; i++) {
            x.fault(1, 0);
            due.ticks("print " + i + " fails", x, 1);
            due.is("state(" + users[i] + ")", x.state(users[i]), 3);
            due.is("result(" + users[i] + ")", x.result(users[i]), -5);
            due.is("line(1)", x.line(1), 3 - i);
            due.driver("the next is given", x, 1, i + 1, 0, i < 3 ? 0 : -1, 0, 1);
            due.is("request(1)", x.request(1), i < 3 ? 2 : 0);
        }
        due.is("nothing is put out", x.output(-1), 0);
        due.ticks("nothing is left", x, 0, 0);
    }

    private static void anEmptyLine(Due due) {
        RebornDrivers x = new RebornDrivers(20);
        due.ticks("nothing to print", x, 0);
        due.is("request(1)", x.request(1), 0);
        x.fault(1, 0);
        due.ticks("a restart without a print", x, 0);
        due.is("request(1)", x.request(1), 0);
        x.print(0, 65);
        due.ticks("given to the new console", x, 0, 0, 0, 1);
        due.is("state(0)", x.state(0), 2);
    }

    /** "if it was not given yet, it is GIVEN": a print that waited for a console has not failed. */
    private static void notGivenIsNotFailed(Due due) {
        RebornDrivers x = new RebornDrivers(20);
        x.fault(1, 0);
        due.ticks("endpoint 1", x, 0);
        x.fault(1, 3);
        x.print(2, 80);
        x.print(1, 81);
        due.ticks("not given", x, 0);
        due.is("request(1)", x.request(1), 1);
        due.ticks("given to endpoint 2, and that is all", x, 0);
        due.driver("given", x, 1, 2, 0, 0, 1, 1);
        due.is("state(2)", x.state(2), 1);
        due.ticks("done, both", x, 0, 0, 1, 0, 0, 1);
        due.is("state(2)", x.state(2), 2);
        due.is("state(1)", x.state(1), 2);
        due.is("output(0)", x.output(0), 80);
        due.is("output(1)", x.output(1), 81);
    }
}
