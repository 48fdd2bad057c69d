import java.util.List;
import java.util.Random;

/** Many roads, the same each time (the seeds are fixed), asked of the class and of the oracle. */
public final class OracleTest {
    private static final int ROADS = 400;
    private static final int FULL_ROADS = 10;
    private static final Checks checks = new Checks();
    private final Random random;
    private final Oracle oracle = new Oracle();
    private final String name;
    private final boolean full;
    private SightRows road = new SightRows();

    private OracleTest(int seed) {
        random = new Random(seed);
        name = "road " + seed + ": ";
        full = seed < FULL_ROADS;
    }

    public static void main(String[] args) {
        for (int seed = 0; seed < ROADS; seed++) {
            OracleTest test = new OracleTest(seed);
            test.build(seed % 5);
            test.ask();
            test.change();
            test.ask();
        }
        checks.close();
    }

    private int pick(int least, int most) {
        return least + random.nextInt(most - least + 1);
    }

    /** Kinds: 0 tiny (many ties), 1 far and steep, 2 a bend, 3 hills, 4 all at the edges. */
    private void build(int kind) {
        int stations = full ? 60 : pick(1, kind == 2 || kind == 3 ? 12 : 8);
        int x = 0;
        int y = 0;
        double heading = 0;
        for (int i = 0; i < stations; i++) {
            if (kind == 0) {
                add(pick(-4, 4), pick(-4, 4), pick(0, 3) * 10);
            } else if (kind == 1) {
                add(pick(-15_000, 15_000), pick(-15_000, 15_000), pick(-100_000, 100_000));
            } else if (kind == 4) {
                add(pick(-1, 1) * 15_000, pick(-1, 1) * 15_000, pick(-1, 1) * 100_000);
            } else {
                add(x, y, pick(-60, 60) * (kind == 3 ? 2 : 0));
                heading += kind == 2 ? random.nextDouble() * 0.5 - 0.1 : 0;
                int step = pick(50, full ? 200 : 400);
                x += (int) (step * Math.cos(heading));
                y += (int) (step * Math.sin(heading));
            }
        }
        boxes(kind, x, full ? 8 : pick(0, 8));
        change();
    }

    private void add(int x, int y, int level) {
        checks.due(name + "station(" + x + ", " + y + ", " + level + ")", road.station(x, y, level),
            oracle.station(x, y, level));
    }

    private void boxes(int kind, int length, int boxes) {
        for (int i = 0; i < boxes; i++) {
            int spread = kind == 0 ? 4 : kind == 1 || kind == 4 ? 15_000 : Math.max(400, length / 2);
            int x0 = kind >= 2 && kind <= 3 ? pick(0, 2 * spread) : pick(-spread, spread);
            int y0 = kind == 3 ? pick(-20, 0) : pick(-spread, spread);
            int x1 = Math.min(15_000, x0 + pick(0, kind == 0 ? 3 : spread / 10));
            int y1 = Math.min(15_000, y0 + pick(0, kind == 0 ? 3 : spread / 10));
            int top = kind == 0 ? pick(0, 16) * 10 : kind == 1 ? pick(-100_000, 100_000) : pick(-50, 180);
            checks.due(name + "box", road.box(x0, y0, x1, y1, top), oracle.box(x0, y0, x1, y1, top));
        }
    }

    private void change() {
        int stations = oracle.stations.size();
        oracle.eye = pick(0, 4) == 0 ? 110 : pick(0, 200);
        oracle.thing = pick(0, 4) == 0 ? 20 : pick(0, 100);
        road.heights(oracle.eye, oracle.thing);
        oracle.react = pick(0, 100);
        oracle.brake = pick(50, 1_000);
        road.brake(oracle.react, oracle.brake);
        for (int i = 0; i < stations; i++) {
            int v = pick(0, 200);
            oracle.speeds.set(i, v);
            road.speed(i, v);
            int side = pick(0, 1);
            int width = pick(0, 1) == 0 ? pick(0, 3) : pick(0, 200);
            if (pick(0, 3) == 0) {
                oracle.widths.get(i)[side] = width;
                road.clear(i, side, width);
            }
        }
    }

    private void ask() {
        renew();
        askStations();
        renew();
        askLooking(false);
        renew();
        askLooking(true);
        renew();
        askAll();
    }

    /** An object answers 512 calls: a full road is told to a new one before it is asked more. */
    private void renew() {
        if (!full) {
            return;
        }
        road = new SightRows();
        for (int i = 0; i < oracle.stations.size(); i++) {
            Oracle.Station s = oracle.stations.get(i);
            road.station(s.x(), s.y(), s.level());
            road.speed(i, oracle.speeds.get(i));
            for (int side = 0; side < 2; side++) {
                Integer width = oracle.widths.get(i)[side];
                if (width != null) {
                    road.clear(i, side, width);
                }
            }
        }
        for (Oracle.Box b : oracle.boxes) {
            road.box(b.x0(), b.y0(), b.x1(), b.y1(), b.top());
        }
        road.heights(oracle.eye, oracle.thing);
        road.brake(oracle.react, oracle.brake);
    }

    private void askStations() {
        for (int i = 0; i < oracle.stations.size(); i++) {
            checks.due(name + "way(" + i + ")", road.way(i), oracle.stations.get(i).way());
            for (int side = 0; side < 2; side++) {
                checks.due(name + "setBack(" + i + ", " + side + ")", road.setBack(i, side), oracle.setBack(i, side));
            }
            askLight(i);
        }
    }

    private void askLight(int station) {
        int lamp = pick(0, 100);
        int rise = pick(0, 100) / pick(1, 20);
        checks.due(name + "light(" + station + ", " + lamp + ", " + rise + ")", road.light(station, lamp, rise),
            oracle.light(station, lamp, rise));
    }

    private void askView(int from, int to) {
        if (from != to) {
            int[] due = oracle.interrupted(from, to);
            checks.due(name + "view(" + from + ", " + to + ", 0)", road.view(from, to, 0), due[0]);
            checks.due(name + "view(" + from + ", " + to + ", 1)", road.view(from, to, 1), due[1]);
        }
    }

    private void askLooking(boolean back) {
        for (int i = 0; i < oracle.stations.size(); i++) {
            String call = "(" + i + ", " + back + ")";
            checks.due(name + "sight" + call, road.sight(i, back), oracle.sight(i, back));
            checks.due(name + "need" + call, road.need(i, back), oracle.need(i, back));
            checks.due(name + "allowed" + call, road.allowed(i, back), oracle.allowed(i, back));
        }
        List<int[]> stretches = oracle.blind(back);
        for (int k = 0; k <= stretches.size(); k++) {
            for (int what = 0; what < 2; what++) {
                int due = k < stretches.size() ? stretches.get(k)[what] : -1;
                checks.due(name + "blind(" + back + ", " + k + ", " + what + ")", road.blind(back, k, what), due);
            }
        }
    }

    private void askAll() {
        int last = oracle.stations.size() - 1;
        for (int n = 0; n < 12; n++) {
            askView(pick(0, last), pick(0, last));
        }
        int wanted = Math.max(1, oracle.sight(pick(0, last), false) + pick(0, 1));
        checks.due(name + "overtake(" + wanted + ")", road.overtake(wanted), oracle.overtake(wanted));
        for (int n = 0; n < 6; n++) {
            Oracle.Station s = oracle.stations.get(pick(0, last));
            int x = Math.max(-15_000, Math.min(15_000, s.x() + pick(-3_000, 3_000) / pick(1, 500)));
            int y = Math.max(-15_000, Math.min(15_000, s.y() + pick(-3_000, 3_000) / pick(1, 500)));
            int height = s.level() / 2 + pick(-100, 300);
            checks.due(name + "seen(" + x + ", " + y + ", " + height + ")", road.seen(x, y, height),
                oracle.seen(x, y, height));
        }
        int[] due = {last + 1, oracle.boxes.size(), oracle.told(), oracle.freeViews(),
            oracle.blindStations(false), oracle.blindStations(true)};
        for (int what = 0; what < due.length; what++) {
            checks.due(name + "count(" + what + ")", road.count(what), due[what]);
        }
    }
}
