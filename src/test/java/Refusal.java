import java.util.function.Predicate;
import java.util.function.Supplier;

/**
 * "A refused call changes nothing": an object on which it was made answers as its twin, on which it was not made, at
 * once and over the ticks that follow.
 */
final class Refusal {
    private static final int TICKS_AFTER = 14;

    private Refusal() {
    }

    static void check(Due due, String call, Supplier<RebornDrivers> made, Predicate<RebornDrivers> refused) {
        RebornDrivers x = made.get();
        RebornDrivers twin = made.get();
        due.refused(call, refused.test(x));
        due.same(call + ", at once", x, twin);
        for (int i = 1; i <= TICKS_AFTER; i++) {
            due.is(call + ", " + i + " ticks later: tick()", x.tick(), twin.tick());
        }
        due.same(call + ", " + TICKS_AFTER + " ticks later", x, twin);
    }

    static void inEachSituation(Due due, String call, Predicate<RebornDrivers> refused) {
        for (Situation situation : Situation.values()) {
            check(due, situation + ": " + call, situation::make, refused);
        }
    }
}
