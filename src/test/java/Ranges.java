import java.util.ArrayList;
import java.util.List;
import java.util.function.Supplier;

/**
 * Tries a call with the values about a range: the last ones that are taken, the first ones that
 * are refused, and far ones, among them those that would be rightful if they were cut to fewer
 * bits. Each value is tried on an object of its own.
 */
final class Ranges {
    interface Call {
        boolean isTaken(SightRows road, int value);
    }

    private static final int[] WRAPS = {1 << 8, 1 << 16, 1 << 24, 1 << 30, Integer.MIN_VALUE};
    private final Checks checks;

    Ranges(Checks checks) {
        this.checks = checks;
    }

    /** A call that tells: what is refused leaves all as it was, what is taken is seen to be told. */
    void telling(String call, Supplier<SightRows> roads, int least, int most, Call tried) {
        List<String> untouched = Photo.of(roads.get());
        for (int value : taken(least, most)) {
            SightRows road = roads.get();
            checks.due(call + " takes " + value, tried.isTaken(road, value), true);
            checks.due(call + " tells with " + value, Photo.of(road).equals(untouched), false);
        }
        for (int value : refused(least, most)) {
            SightRows road = roads.get();
            checks.due(call + " takes " + value, tried.isTaken(road, value), false);
            leftAsItWas(call + " with " + value, road, untouched);
        }
    }

    /** A call that asks leaves all as it was, whether it is answered or refused. */
    void asking(String call, Supplier<SightRows> roads, int least, int most, Call tried) {
        List<String> untouched = Photo.of(roads.get());
        for (int value : taken(least, most)) {
            SightRows road = roads.get();
            checks.due(call + " answers " + value, tried.isTaken(road, value), true);
            leftAsItWas(call + " with " + value, road, untouched);
        }
        for (int value : refused(least, most)) {
            SightRows road = roads.get();
            checks.due(call + " answers " + value, tried.isTaken(road, value), false);
            leftAsItWas(call + " with " + value, road, untouched);
        }
    }

    /** A station's number: on a road without stations, on one with some, and on a full one. */
    void askingStation(String call, Call tried) {
        asking(call + ", none yet", SightRows::new, 0, -1, tried);
        asking(call + ", one alone", () -> Roads.straight(0), 0, 0, tried);
        asking(call + ", six", Roads::sample, 0, 5, tried);
        asking(call + ", all there are", Roads::full, 0, 59, tried);
    }

    void tellingStation(String call, Call tried) {
        telling(call + ", none yet", SightRows::new, 0, -1, tried);
        telling(call + ", one alone", () -> Roads.straight(0), 0, 0, tried);
        telling(call + ", six", Roads::sample, 0, 5, tried);
        telling(call + ", all there are", Roads::full, 0, 59, tried);
    }

    private void leftAsItWas(String call, SightRows road, List<String> untouched) {
        List<String> now = Photo.of(road);
        checks.due(call + " left all as it was, but for " + difference(now, untouched),
            now.equals(untouched), true);
    }

    private static String difference(List<String> now, List<String> before) {
        for (int i = 0; i < Math.min(now.size(), before.size()); i++) {
            if (!now.get(i).equals(before.get(i))) {
                return before.get(i) + ", now " + now.get(i);
            }
        }
        return now.size() == before.size() ? "nothing" : "how many stations there are";
    }

    private static int[] taken(int least, int most) {
        return least > most ? new int[0] : new int[] {least, most};
    }

    private static List<Integer> refused(int least, int most) {
        List<Integer> values = new ArrayList<>(List.of(least - 1, most + 1));
        values.add(Integer.MIN_VALUE);
        values.add(Integer.MAX_VALUE);
        for (int wrap : WRAPS) {
            values.add(least + wrap);
            values.add(most - wrap);
        }
        values.removeIf(value -> value >= least && value <= most);
        return values;
    }
}
