import java.util.List;

/** The boundaries that the promises 1 to 7 name: each sentence by a test of its own. */
public final class TellingEdgesTest {
    private static final int BAD = -1;
    private static final int LEFT = 0;
    private static final int RIGHT = 1;
    private static final Checks checks = new Checks();
    private static final Ranges ranges = new Ranges(checks);

    public static void main(String[] args) {
        newObject();
        station();
        heights();
        clear();
        box();
        speed();
        brake();
        checks.close();
    }

    private static void newObject() {
        checks.test("1: SightRows(): No stations.", () -> {
            SightRows road = new SightRows();
            checks.due("BAD", SightRows.BAD, -1);
            checks.due("stations", road.count(0), 0);
            checks.due("boxes", road.count(1), 0);
            checks.due("widths", road.count(2), 0);
            checks.due("free views", road.count(3), 0);
            checks.due("blind on", road.count(4), 0);
            checks.due("blind back", road.count(5), 0);
            checks.due("the first station's number", road.station(0, 0, 0), 0);
            checks.due("the first box's number", road.box(0, 0, 0, 0, 0), 0);
        });
        checks.test("1: No stations, though another object has all that there may be", () -> {
            SightRows other = Roads.fullAndDark();
            other.heights(1_000, 1_000);
            other.brake(100, 1_000);
            other.clear(0, LEFT, 0);
            other.speed(0, 200);
            checks.due("the other has 60", other.count(0), 60);
            checks.due("a new one has none", new SightRows().count(0), 0);
            checks.due("nor has it its box", new SightRows().count(1), 0);
            SightRows road = Roads.straight(0, 300);
            checks.due("its eyes, things and boxes are as at first", road.view(0, 1, 0), 0);
            checks.due("its speeds, REACT and BRAKE are as at first", road.need(0, false), 347 + 214);
            checks.due("its widths are as at first", road.count(2), 0);
        });
        checks.test("1: what asks of no stations", () -> {
            SightRows road = new SightRows();
            checks.due("way", road.way(0), BAD);
            checks.due("view", road.view(0, 1, 0), BAD);
            checks.due("sight", road.sight(0, false), BAD);
            checks.due("need", road.need(0, false), BAD);
            checks.due("blind", road.blind(false, 0, 0), BAD);
            checks.due("setBack", road.setBack(0, LEFT), BAD);
            checks.due("allowed", road.allowed(0, false), BAD);
            checks.due("overtake", road.overtake(1), 0);
            checks.due("seen", road.seen(0, 0, 0), 0);
            checks.due("light", road.light(0, 0, 0), BAD);
        });
    }

    private static void station() {
        checks.test("2: One more station: which one.", () -> {
            SightRows road = new SightRows();
            checks.due("the first", road.station(7, 7, 7), 0);
            checks.due("at the same point", road.station(7, 7, 7), 1);
            checks.due("refused", road.station(15_001, 7, 7), BAD);
            checks.due("a refused one takes no number", road.station(8, 7, 7), 2);
            checks.due("three in all", road.count(0), 3);
        });
        checks.test("2: BAD: x, y are not - 15,000 .. 15,000", () -> {
            ranges.telling("x", Roads::sample, -15_000, 15_000, (road, x) -> road.station(x, 1, 1) != BAD);
            ranges.telling("y", Roads::sample, -15_000, 15_000, (road, y) -> road.station(1, y, 1) != BAD);
            ranges.telling("x, the first", SightRows::new, -15_000, 15_000, (road, x) -> road.station(x, 1, 1) != BAD);
            ranges.telling("y, the first", SightRows::new, -15_000, 15_000, (road, y) -> road.station(1, y, 1) != BAD);
            SightRows corners = new SightRows();
            corners.station(-15_000, -15_000, 0);
            corners.station(15_000, -15_000, 0);
            corners.station(15_000, 15_000, 0);
            corners.station(-15_000, 15_000, 0);
            for (int i = 0; i < 4; i++) {
                checks.due("the corners are where they were told", corners.way(i), 30_000 * i);
            }
        });
        checks.test("2: BAD: level not - 100,000 .. 100,000", () -> {
            ranges.telling("level", Roads::sample, -100_000, 100_000, (road, z) -> road.station(1, 1, z) != BAD);
            SightRows road = Roads.levels(-100_000, 100_000);
            checks.due("the whole of both levels is there", road.light(0, 0, 0), 0);
            SightRows high = new SightRows();
            high.station(0, 0, 99_000);
            high.station(1, 0, 100_000);
            checks.due("100,000 is not above 99,000 and 1,000", high.light(0, 1_000, 0), 1);
            checks.due("100,000 is above 99,000 and 999", high.light(0, 999, 0), 0);
            SightRows low = new SightRows();
            low.station(0, 0, -100_000);
            low.station(1, 0, -99_000);
            checks.due("- 99,000 is not above - 100,000 and 1,000", low.light(0, 1_000, 0), 1);
            checks.due("- 99,000 is above - 100,000 and 999", low.light(0, 999, 0), 0);
        });
        checks.test("2: BAD: there are 60.", () -> {
            SightRows road = new SightRows();
            for (int i = 0; i < 59; i++) {
                road.station(i, 0, 0);
            }
            checks.due("the 60th", road.station(59, 0, 0), 59);
            List<String> before = Photo.of(road);
            checks.due("the 61st", road.station(60, 0, 0), BAD);
            checks.due("the 61st once more", road.station(-60, 60, 60), BAD);
            checks.due("all is as it was", Photo.of(road).equals(before), true);
        });
    }

    /** Whether the eye's point, and the thing's, are seen past boxes that end so high there. */
    private static boolean isSeenPast(SightRows road, int eyeTop, int thingTop) {
        road.station(0, 0, 0);
        road.station(300, 0, 0);
        road.box(0, 0, 0, 0, eyeTop);
        road.box(300, 0, 300, 0, thingTop);
        return road.view(0, 1, 0) == 0;
    }

    private static SightRows withHeights(int eye, int thing) {
        SightRows road = new SightRows();
        checks.due("heights", road.heights(eye, thing), true);
        return road;
    }

    private static void heights() {
        checks.test("3: Heights of eyes and things, 0 .. 1,000.", () -> {
            ranges.telling("eye", Roads::sample, 0, 1_000, (road, eye) -> road.heights(eye, 20));
            ranges.telling("thing", Roads::sample, 0, 1_000, (road, thing) -> road.heights(110, thing));
            checks.due("eyes at 0", isSeenPast(withHeights(0, 500), 0, 500), true);
            checks.due("eyes at 0, 1", isSeenPast(withHeights(0, 500), 1, 500), false);
            checks.due("eyes at 1,000", isSeenPast(withHeights(1_000, 500), 1_000, 500), true);
            checks.due("eyes at 1,000, 1,001", isSeenPast(withHeights(1_000, 500), 1_001, 500), false);
            checks.due("things at 0", isSeenPast(withHeights(500, 0), 500, 0), true);
            checks.due("things at 0, 1", isSeenPast(withHeights(500, 0), 500, 1), false);
            checks.due("things at 1,000", isSeenPast(withHeights(500, 1_000), 500, 1_000), true);
            checks.due("things at 1,000, 1,001", isSeenPast(withHeights(500, 1_000), 500, 1_001), false);
            SightRows again = withHeights(700, 800);
            again.heights(300, 200);
            checks.due("the last told ones count", isSeenPast(again, 300, 201), false);
        });
        checks.test("3: False: none such.", () -> {
            ranges.telling("a wrong eye tells no thing", Roads::sample, 0, 1_000,
                (road, eye) -> road.heights(eye, 900));
            ranges.telling("a wrong thing tells no eye", Roads::sample, 0, 1_000,
                (road, thing) -> road.heights(900, thing));
            SightRows road = withHeights(300, 200);
            checks.due("both wrong", road.heights(-1, 1_001), false);
            checks.due("both wrong", road.heights(1_001, -1), false);
            checks.due("they stay", isSeenPast(road, 300, 200), true);
            SightRows same = withHeights(300, 200);
            same.heights(1_001, 200);
            checks.due("they stay, 301", isSeenPast(same, 301, 200), false);
        });
    }

    private static void clear() {
        checks.test("4: A station's clear width", () -> {
            ranges.tellingStation("station", (road, station) -> road.clear(station, LEFT, 7));
            ranges.tellingStation("station, right", (road, station) -> road.clear(station, RIGHT, 8));
        });
        checks.test("4: clear width, 0 .. 1,000", () -> {
            ranges.telling("width", Roads::sample, 0, 1_000, (road, width) -> road.clear(4, LEFT, width));
            ranges.telling("width told before", Roads::sample, 0, 1_000, (road, width) -> road.clear(2, LEFT, width));
            checks.due("0.7 past 0", past(Roads.bend(1, 0, 2, 2), LEFT, 0), 2);
            checks.due("1,000 past 1,000", past(Roads.bend(9, 1_000, 18, 0), RIGHT, 1_000), 0);
            checks.due("1,000.2 past 1,000", past(Roads.bend(-201, 1_399, 1_200, 1_600), RIGHT, 1_000), 2);
            SightRows again = Roads.bend(50, -30, 100, 0);
            checks.due("30 past 29", past(again, LEFT, 29), 2);
            checks.due("told anew, 30", past(again, LEFT, 30), 0);
            checks.due("told anew, 0", past(again, LEFT, 0), 2);
        });
        checks.test("4: on its left (side 0) or right (1)", () -> {
            ranges.telling("side", Roads::sample, 0, 1, (road, side) -> road.clear(4, side, 9));
            ranges.telling("side, at the last of 60", Roads::full, 0, 1, (road, side) -> road.clear(59, side, 9));
            ranges.telling("side, at the first of 60", Roads::full, 0, 1, (road, side) -> road.clear(0, side, 9));
            checks.due("0 is left", past(Roads.bend(50, -30, 100, 0), 0, 0), 2);
            checks.due("1 is not left", past(Roads.bend(50, -30, 100, 0), 1, 0), 0);
            checks.due("1 is right", past(Roads.bend(50, 30, 100, 0), 1, 0), 2);
            checks.due("0 is not right", past(Roads.bend(50, 30, 100, 0), 0, 0), 0);
        });
        checks.test("4: False: none such.", () -> {
            SightRows road = Roads.bend(50, -30, 100, 0);
            road.clear(1, LEFT, 30);
            int[][] wrong = {{3, 0, 0}, {-1, 0, 0}, {1, 2, 0}, {1, -1, 0}, {1, 0, -1}, {1, 0, 1_001},
                {0, 3, 0}, {2, -1, 0}};
            for (int[] w : wrong) {
                checks.due("clear", road.clear(w[0], w[1], w[2]), false);
                checks.due("the width stays", road.view(0, 2, 0), 0);
                checks.due("one width was told", road.count(2), 1);
            }
            road.clear(1, LEFT, 29);
            checks.due("clear", road.clear(1, LEFT, 1_001), false);
            checks.due("the width stays", road.view(0, 2, 0), 2);
        });
    }

    private static int past(SightRows road, int side, int width) {
        checks.due("clear", road.clear(1, side, width), true);
        return road.view(0, 2, 0);
    }

    private static void box() {
        checks.test("5: One more box: which one.", () -> {
            SightRows road = new SightRows();
            checks.due("the first, without a station", road.box(1, 1, 1, 1, 1), 0);
            checks.due("the same once more", road.box(1, 1, 1, 1, 1), 1);
            checks.due("refused", road.box(2, 1, 1, 1, 1), BAD);
            checks.due("a refused one takes no number", road.box(1, 1, 2, 2, 2), 2);
            checks.due("three in all", road.count(1), 3);
        });
        checks.test("5: BAD: x0 > x1, y0 > y1", () -> {
            ranges.telling("x0", Roads::sample, -15_000, 500, (road, x) -> road.box(x, 0, 500, 0, 0) != BAD);
            ranges.telling("x1", Roads::sample, 500, 15_000, (road, x) -> road.box(500, 0, x, 0, 0) != BAD);
            ranges.telling("y0", Roads::sample, -15_000, 500, (road, y) -> road.box(0, y, 0, 500, 0) != BAD);
            ranges.telling("y1", Roads::sample, 500, 15_000, (road, y) -> road.box(0, 500, 0, y, 0) != BAD);
            SightRows road = Roads.straight(0, 300);
            checks.due("corners told the wrong way", road.box(200, 0, 100, 0, 900), BAD);
            checks.due("are no box", road.view(0, 1, 0), 0);
            checks.due("both corners are one", road.box(100, 0, 100, 0, 900), 0);
            checks.due("is a box", road.view(0, 1, 0), 3);
        });
        checks.test("5: BAD: one not - 15,000 .. 15,000", () -> {
            ranges.telling("x0", Roads::sample, -15_000, 15_000, (road, x) -> road.box(x, 0, 15_000, 0, 0) != BAD);
            ranges.telling("y0", Roads::sample, -15_000, 15_000, (road, y) -> road.box(0, y, 0, 15_000, 0) != BAD);
            ranges.telling("x1", Roads::sample, -15_000, 15_000, (road, x) -> road.box(-15_000, 0, x, 0, 0) != BAD);
            ranges.telling("y1", Roads::sample, -15_000, 15_000, (road, y) -> road.box(0, -15_000, 0, y, 0) != BAD);
            ranges.telling("x0 and x1", Roads::sample, -15_000, 15_000, (road, x) -> road.box(x, 0, x, 0, 0) != BAD);
            ranges.telling("y0 and y1", Roads::sample, -15_000, 15_000, (road, y) -> road.box(0, y, 0, y, 0) != BAD);
            for (int corner = 0; corner < 4; corner++) {
                checks.due("a box at a corner of the plane is there", viewAtCorner(corner), 3);
            }
        });
        checks.test("5: BAD: top not - 100,000 .. 100,000", () -> {
            ranges.telling("top", Roads::sample, -100_000, 100_000, (road, top) -> road.box(0, 0, 0, 0, top) != BAD);
            checks.due("100,000 at 99,980 and 20", isSeenAt(99_980, 100_000), true);
            checks.due("100,000 at 99,979 and 20", isSeenAt(99_979, 100_000), false);
            checks.due("- 100,000 at the lowest level", isSeenAt(-100_000, -100_000), true);
        });
        checks.test("5: BAD: there are 8.", () -> {
            SightRows road = Roads.straight(0, 300);
            for (int i = 0; i < 8; i++) {
                checks.due("box", road.box(i, 1, i, 1, 900), i);
            }
            List<String> before = Photo.of(road);
            checks.due("the ninth", road.box(0, 0, 300, 0, 900), BAD);
            checks.due("the ninth once more", road.box(0, 0, 300, 0, 900), BAD);
            checks.due("a ninth that is wrong", road.box(1, 0, 0, 0, 900), BAD);
            checks.due("all is as it was", Photo.of(road).equals(before), true);
            checks.due("8 in all", road.count(1), 8);
        });
    }

    /** A view that ends at a corner of the plane, where a box that is one point stands. */
    private static int viewAtCorner(int corner) {
        int x = corner % 2 == 0 ? -15_000 : 15_000;
        int y = corner / 2 == 0 ? -15_000 : 15_000;
        SightRows road = new SightRows();
        road.station(0, 0, 0);
        road.station(x, y, 0);
        road.box(x, y, x, y, 900);
        return road.view(0, 1, 0);
    }

    /** Whether a thing on this level is seen in a box with this top (eyes are higher). */
    private static boolean isSeenAt(int level, int top) {
        SightRows road = new SightRows();
        road.station(0, 0, level);
        road.station(300, 0, level);
        road.box(300, 0, 300, 0, top);
        return road.view(0, 1, 0) == 0;
    }

    private static void speed() {
        checks.test("6: A station's speed, 0 .. 200", () -> {
            ranges.telling("v", Roads::sample, 0, 200, (road, v) -> road.speed(0, v));
            ranges.telling("v, one alone", () -> Roads.straight(0), 0, 200, (road, v) -> road.speed(0, v));
            ranges.tellingStation("station", (road, station) -> road.speed(station, 120));
            SightRows road = Roads.straight(0, 1_000, 2_000);
            road.speed(1, 0);
            checks.due("0", road.need(1, false), 0);
            road.speed(1, 1);
            checks.due("1", road.need(1, false), 6);
            road.speed(1, 199);
            checks.due("199", road.need(1, false), 1_381 + 3_395);
            road.speed(1, 200);
            checks.due("200", road.need(1, false), 1_388 + 3_429);
            checks.due("the one before keeps its own", road.need(0, false), 347 + 214);
            checks.due("the one behind keeps its own", road.need(2, false), 347 + 214);
        });
        checks.test("6: (50 at first)", () -> {
            SightRows road = Roads.full();
            for (int i = 0; i < 60; i++) {
                checks.due("50: neither 49 (545) nor 51 (576)", road.need(i, false), 347 + 214);
            }
        });
        checks.test("6: False: none such.", () -> {
            SightRows road = Roads.straight(0, 1_000);
            road.speed(0, 100);
            int[][] wrong = {{2, 5}, {-1, 5}, {0, -1}, {0, 201}, {2, 201}, {-1, -1}};
            for (int[] w : wrong) {
                checks.due("speed", road.speed(w[0], w[1]), false);
                checks.due("it stays", road.need(0, false), 694 + 857);
                checks.due("the other's stays", road.need(1, false), 347 + 214);
            }
            checks.due("a new station has 50", road.station(2_000, 0, 0), 2);
            checks.due("though 5 was told of it too early", road.need(2, false), 347 + 214);
        });
    }

    private static void brake() {
        checks.test("7: REACT 0 .. 100", () -> {
            ranges.telling("react", Roads::sample, 0, 100, (road, react) -> road.brake(react, 450));
            SightRows road = Roads.straight(0);
            road.brake(0, 450);
            checks.due("0", road.need(0, false), 214);
            road.brake(1, 450);
            checks.due("1", road.need(0, false), 13 + 214);
            road.brake(99, 450);
            checks.due("99", road.need(0, false), 1_375 + 214);
            road.brake(100, 450);
            checks.due("100", road.need(0, false), 1_388 + 214);
        });
        checks.test("7: BRAKE 50 .. 1,000", () -> {
            ranges.telling("brake", Roads::sample, 50, 1_000, (road, brake) -> road.brake(25, brake));
            SightRows road = Roads.straight(0);
            road.speed(0, 200);
            road.brake(0, 50);
            checks.due("50", road.need(0, false), 30_864);
            road.brake(0, 51);
            checks.due("51", road.need(0, false), 30_259);
            road.brake(0, 999);
            checks.due("999", road.need(0, false), 1_544);
            road.brake(0, 1_000);
            checks.due("1,000", road.need(0, false), 1_543);
        });
        checks.test("7: False: none such.", () -> {
            ranges.telling("a wrong REACT tells no BRAKE", Roads::sample, 0, 100,
                (road, react) -> road.brake(react, 900));
            ranges.telling("a wrong BRAKE tells no REACT", Roads::sample, 50, 1_000,
                (road, brake) -> road.brake(90, brake));
            SightRows road = Roads.straight(0);
            road.brake(10, 900);
            checks.due("both wrong", road.brake(-1, 49), false);
            checks.due("both wrong", road.brake(101, 1_001), false);
            checks.due("told the wrong way", road.brake(450, 25), false);
            checks.due("they stay", road.need(0, false), 138 + 107);
        });
    }
}
