/** Roads that several tests use. */
final class Roads {
    private Roads() {
    }

    /** A road with stations at the x that are told, y and level 0. */
    static SightRows straight(int... xs) {
        SightRows road = new SightRows();
        for (int x : xs) {
            road.station(x, 0, 0);
        }
        return road;
    }

    /** A road with a station each 1,000 decimetres, at the levels that are told. */
    static SightRows levels(int... levels) {
        SightRows road = new SightRows();
        for (int i = 0; i < levels.length; i++) {
            road.station(1_000 * i, 0, levels[i]);
        }
        return road;
    }

    /** A road of three stations, the middle one beside the line of the others: (0, 0) to (x2, y2). */
    static SightRows bend(int x1, int y1, int x2, int y2) {
        SightRows road = new SightRows();
        road.station(0, 0, 0);
        road.station(x1, y1, 0);
        road.station(x2, y2, 0);
        return road;
    }

    /** The longest line, beside its second station by the least that may be: on its left, or right. */
    static SightRows longAndThin(int side) {
        SightRows road = new SightRows();
        road.station(-15_000, -15_000, 1);
        road.station(-14_999, -14_999, 0);
        road.station(side == 0 ? 14_999 : 15_000, side == 0 ? 15_000 : 14_999, 0);
        return road;
    }

    /** The most stations that there may be, each 500 decimetres, level and straight. */
    static SightRows full() {
        SightRows road = new SightRows();
        for (int i = 0; i < 60; i++) {
            road.station(500 * i - 15_000, 0, 0);
        }
        return road;
    }

    /** The same in a box that is over all: no view is free. */
    static SightRows fullAndDark() {
        SightRows road = full();
        road.box(-15_000, -15_000, 15_000, 15_000, 100_000);
        return road;
    }

    /** A bent and hilly road with banks and boxes, on which all that may be told shows. */
    static SightRows sample() {
        SightRows road = new SightRows();
        road.station(0, 0, 0);
        road.station(400, 0, 60);
        road.station(800, 40, 60);
        road.station(1_200, 160, 150);
        road.station(1_500, 400, 20);
        road.station(2_700, 1_800, 0);
        road.clear(2, 0, 60);
        road.clear(3, 0, 60);
        road.clear(3, 1, 40);
        road.speed(0, 100);
        road.speed(1, 30);
        road.speed(2, 80);
        road.speed(4, 70);
        road.box(1_350, 200, 1_400, 300, 100);
        road.box(1_000, 0, 1_050, 90, 170);
        road.box(2_700, 1_800, 2_700, 1_800, 15);
        return road;
    }
}
