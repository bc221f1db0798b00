import java.util.LinkedHashMap;
import java.util.Map;
import java.util.function.ToIntFunction;

/** All that can be looked at of an object whose output has at most six characters, by the call's name. */
final class Looks {
    static final Map<String, ToIntFunction<RebornDrivers>> ALL = all();

    private Looks() {
    }

    private static Map<String, ToIntFunction<RebornDrivers>> all() {
        Map<String, ToIntFunction<RebornDrivers>> looks = new LinkedHashMap<>();
        looks.put("now()", RebornDrivers::now);
        for (int i = 0; i < 4; i++) {
            int u = i;
            looks.put("state(" + u + ")", x -> x.state(u));
            looks.put("result(" + u + ")", x -> x.result(u));
        }
        for (int i = 0; i < 2; i++) {
            int s = i;
            looks.put("line(" + s + ")", x -> x.line(s));
            looks.put("request(" + s + ")", x -> x.request(s));
        }
        for (int i = 0; i < 16; i++) {
            int b = i;
            looks.put("device(" + b + ")", x -> x.device(b));
        }
        for (int i = -1; i < 6; i++) {
            int place = i;
            looks.put("output(" + place + ")", x -> x.output(place));
        }
        putSlotsAndDrivers(looks);
        return looks;
    }

    private static void putSlotsAndDrivers(Map<String, ToIntFunction<RebornDrivers>> looks) {
        for (int i = 0; i < 9; i++) {
            int s = i / 3;
            int k = i % 3;
            looks.put("slot(" + s + ", " + k + ")", x -> x.slot(s, k));
        }
        for (int i = 0; i < 10; i++) {
            int d = i / 5;
            int k = i % 5;
            looks.put("driver(" + d + ", " + k + ")", x -> x.driver(d, k));
        }
    }
}
