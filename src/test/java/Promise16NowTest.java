/** Promise 16: now. */
public final class Promise16NowTest {
    public static void main(String[] args) {
        Due due = new Due();
        RebornDrivers x = new RebornDrivers(7);
        due.is("now()", x.now(), 0);
        x.read(0, 1);
        x.write(1, 1, 1);
        x.sync(2);
        x.print(3, 65);
        x.fault(0, 2);
        x.fault(1, 0);
        due.is("only a tick moves it", x.now(), 0);
        for (int i = 1; i <= 100; i++) {
            x.tick();
            due.is("after " + i + " ticks", x.now(), i);
        }
        due.end();
    }
}
