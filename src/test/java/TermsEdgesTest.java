/** The boundaries that "What it is" and "Terms" name: each sentence by a test of its own. */
public final class TermsEdgesTest {
    private static final int BAD = -1;
    private static final int FREE = 0;
    private static final int GROUND = 1;
    private static final int BANK = 2;
    private static final int BOX = 3;
    private static final int LEFT = 0;
    private static final int RIGHT = 1;
    private static final Checks checks = new Checks();

    public static void main(String[] args) {
        checks.test("An object is used for at most 512 calls after it has been made", TermsEdgesTest::calls);
        stationsAndWays();
        heights();
        ground();
        banks();
        boxes();
        order();
        sight();
        need();
        blind();
        checks.close();
    }

    /** The 512th call is answered as the first; a later one may answer what it likes, but ends. */
    private static void calls() {
        SightRows road = Roads.full();
        int made = 60;
        for (int i = 0; made < 511; i = (i + 1) % 60) {
            checks.due("call " + made, road.way(i), 500 * i);
            made++;
        }
        checks.due("the 512th call", road.count(3), 60 * 59 / 2);
        for (int i = 0; i < 1_000; i++) {
            road.station(i, i, i);
            road.clear(i, i, i);
            road.box(i, i, i, i, i);
            road.view(i, i + 1, 0);
            road.setBack(i, 0);
            road.blind(false, i, 0);
        }
    }

    private static void stationsAndWays() {
        checks.test("STATIONS 0, 1, .. (60 at most) are points of the road, as they come", () -> {
            SightRows road = new SightRows();
            checks.due("no station yet", road.way(0), BAD);
            for (int i = 0; i < 60; i++) {
                checks.due("which one", road.station(9 * i, 0, 0), i);
            }
            for (int i = 0; i < 3; i++) {
                checks.due("one more than 60", road.station(-9, 0, 0), BAD);
            }
            checks.due("60 it stays", road.count(0), 60);
            checks.due("the last is the 60th that came", road.way(59), 9 * 59);
        });
        checks.test("The WAY of station 0 is 0", () -> {
            checks.due("one alone", Roads.straight(15_000).way(0), 0);
            SightRows road = new SightRows();
            road.station(-15_000, 15_000, 100_000);
            road.station(15_000, -15_000, -100_000);
            checks.due("with one more", road.way(0), 0);
        });
        checks.test("that of each other one the way of the one before and the distance of both", () -> {
            SightRows road = Roads.straight(0, 10, 0, -10);
            checks.due("there", road.way(1), 10);
            checks.due("and back: no way is taken away", road.way(2), 20);
            checks.due("past the first", road.way(3), 30);
            checks.due("the longest road", zigzag().way(59), 59 * 42_426);
        });
        checks.test("cut off to whole decimetres", TermsEdgesTest::cutOff);
        checks.test("but 1 at least", () -> {
            SightRows road = new SightRows();
            for (int i = 0; i < 60; i++) {
                road.station(5, 5, -i);
                checks.due("all at one point", road.way(i), i);
            }
            checks.due("1 is 1", Roads.straight(0, 1).way(1), 1);
            checks.due("2 is not 1", Roads.straight(0, 2).way(1), 2);
        });
        checks.test("the distance of both in the plane", () -> {
            SightRows road = new SightRows();
            road.station(0, 0, -100_000);
            road.station(3, 4, 100_000);
            checks.due("levels are nothing to it", road.way(1), 5);
        });
    }

    /** There and back between two corners of the plane. */
    private static SightRows zigzag() {
        SightRows road = new SightRows();
        for (int i = 0; i < 60; i++) {
            int corner = i % 2 == 0 ? -15_000 : 15_000;
            road.station(corner, corner, 0);
        }
        return road;
    }

    /** The same up from - 100,000 to 77,090: all levels lie on the view, but for one above it. */
    private static SightRows risingZigzag(int raised) {
        SightRows road = new SightRows();
        for (int i = 0; i < 60; i++) {
            int corner = i % 2 == 0 ? -15_000 : 15_000;
            int level = i == 0 ? -100_000 : i == 59 ? 77_090 : -99_890 + 3_000 * i;
            road.station(corner, corner, i == raised && i > 0 ? level + 1 : level);
        }
        return road;
    }

    private static void cutOff() {
        int[][] steps = {{1, 1, 1}, {2, 1, 2}, {2, 2, 2}, {3, 0, 3}, {3, 4, 5}, {8, 4, 8}, {7, 7, 9}, {9, 0, 9},
            {6, 8, 10}, {29_999, 2, 29_999}, {30_000, 0, 30_000}, {30_000, 29_999, 42_425}, {30_000, 30_000, 42_426}};
        for (int[] step : steps) {
            for (int turn = 0; turn < 4; turn++) {
                int x = turn % 2 == 0 ? -15_000 : 15_000;
                int y = turn / 2 == 0 ? -15_000 : 15_000;
                SightRows road = new SightRows();
                road.station(x, y, 0);
                road.station(x < 0 ? x + step[0] : x - step[0], y < 0 ? y + step[1] : y - step[1], 0);
                checks.due(step[0] + " and " + step[1] + " aslant", road.way(1), step[2]);
            }
        }
        SightRows sum = new SightRows();
        for (int i = 0; i < 11; i++) {
            sum.station(i, i, 0);
        }
        checks.due("each step by itself, not their sum, 14.1", sum.way(10), 10);
    }

    /** A view from 0 to 300 past a box that is one point. */
    private static int viewOverPoint(int x, int top) {
        SightRows road = Roads.straight(0, 300);
        road.box(x, 0, x, 0, top);
        return road.view(0, 1, 0);
    }

    private static void heights() {
        checks.test("EYES are so high above the road (110 centimetres at first)", () -> {
            checks.due("110 is not below 110", viewOverPoint(0, 110), FREE);
            checks.due("110 is below 111", viewOverPoint(0, 111), BOX);
        });
        checks.test("THINGS so high (20)", () -> {
            checks.due("20 is not below 20", viewOverPoint(300, 20), FREE);
            checks.due("20 is below 21", viewOverPoint(300, 21), BOX);
        });
        checks.test("Its HEIGHT at a part t of it (0 .. 1)", () -> {
            checks.due("80 at a third", viewOverPoint(100, 80), FREE);
            checks.due("80 at a third, 81", viewOverPoint(100, 81), BOX);
            checks.due("50 at two thirds", viewOverPoint(200, 50), FREE);
            checks.due("50 at two thirds, 51", viewOverPoint(200, 51), BOX);
            checks.due("109.7 at 1 of 300", viewOverPoint(1, 109), FREE);
            checks.due("109.7 at 1 of 300, 110", viewOverPoint(1, 110), BOX);
            checks.due("20.3 at 299 of 300", viewOverPoint(299, 20), FREE);
            checks.due("20.3 at 299 of 300, 21", viewOverPoint(299, 21), BOX);
            checks.due("before 0", viewOverPoint(-1, 100_000), FREE);
            checks.due("beyond 1", viewOverPoint(301, 100_000), FREE);
        });
        checks.test("(levels and heights together)", () -> {
            checks.due("- 890 and - 980 by sevenths: - 902.9", viewOverGround(-1_000, 1, 7, -903), FREE);
            checks.due("- 902.9 is below - 902", viewOverGround(-1_000, 1, 7, -902), GROUND);
            checks.due("1,110 and 1,020 by sevenths: 1,097.1", viewOverGround(1_000, 1, 7, 1_097), FREE);
            checks.due("1,097.1 is below 1,098", viewOverGround(1_000, 1, 7, 1_098), GROUND);
            checks.due("the highest levels", viewOverGround(100_000, 1, 2, 100_000), FREE);
            checks.due("the lowest levels, 65", viewOverGround(-100_000, 1, 2, -99_935), FREE);
            checks.due("the lowest levels, 66", viewOverGround(-100_000, 1, 2, -99_934), GROUND);
            checks.due("the longest road, just below the view", risingZigzag(0).view(0, 59, 0), FREE);
            for (int raised = 1; raised < 59; raised++) {
                checks.due("one a centimetre above it", risingZigzag(raised).view(0, 59, 1), raised);
            }
        });
    }

    /** A view from a level to the same, past a station after some of the whole way. */
    private static int viewOverGround(int level, int part, int whole, int between) {
        SightRows road = new SightRows();
        road.station(0, 0, level);
        road.station(part, 0, between);
        road.station(whole, 0, level);
        return road.view(0, 2, 0);
    }

    private static void ground() {
        checks.test("by the GROUND at a station between both", () -> {
            SightRows road = Roads.levels(5_000, 0, 0, 5_000);
            checks.due("those before and beyond are not between", road.view(1, 2, 0), FREE);
            checks.due("nor are they, back", road.view(2, 1, 0), FREE);
            SightRows ends = Roads.levels(50, 50, 50);
            ends.heights(0, 0);
            checks.due("the ends are not above themselves", ends.view(0, 2, 0), FREE);
            SightRows first = Roads.levels(0, 5_000, 0, 0, 0);
            checks.due("the first between", first.view(0, 4, 1), 1);
            SightRows last = Roads.levels(0, 0, 0, 5_000, 0);
            checks.due("the last between", last.view(0, 4, 1), 3);
            checks.due("the first between, back", last.view(4, 0, 1), 3);
        });
        checks.test("if the level there is above the height at t", () -> {
            checks.due("65 is not above 65", viewOverGround(0, 1, 2, 65), FREE);
            checks.due("66 is above 65", viewOverGround(0, 1, 2, 66), GROUND);
            checks.due("80 is not above 80", viewOverGround(0, 1, 3, 80), FREE);
            checks.due("81 is above 80", viewOverGround(0, 1, 3, 81), GROUND);
            checks.due("87 is not above 87.5", viewOverGround(0, 1, 4, 87), FREE);
            checks.due("88 is above 87.5", viewOverGround(0, 1, 4, 88), GROUND);
            checks.due("the greatest drop", Roads.levels(-100_000, 100_000, -100_000).view(0, 2, 0), GROUND);
            checks.due("the greatest dip", Roads.levels(100_000, -100_000, 100_000).view(0, 2, 0), FREE);
        });
        checks.test("the difference of ways from the eye's station to that one by the one to the thing's", () -> {
            SightRows road = new SightRows();
            road.station(0, 0, 0);
            road.station(0, 0, 88);
            road.station(3, 0, 0);
            checks.due("1 of 4 on the way, 0 of 3 in the plane", road.view(0, 2, 0), GROUND);
            SightRows back = new SightRows();
            back.station(0, 0, 0);
            back.station(3, 0, 88);
            back.station(3, 0, 0);
            checks.due("from the eye's station, back", back.view(2, 0, 0), GROUND);
            back.heights(111, 20);
            checks.due("from the eye's station, back, 88.25", back.view(2, 0, 0), FREE);
            SightRows circle = new SightRows();
            circle.station(0, 0, 0);
            circle.station(50, 0, 65);
            circle.station(0, 0, 0);
            checks.due("both at one point: a half of the way, 65", circle.view(0, 2, 0), FREE);
            circle.station(50, 0, 66);
            circle.station(0, 0, 0);
            checks.due("both at one point: a half of the way, 66", circle.view(2, 4, 0), GROUND);
        });
    }

    private static int viewPastBank(SightRows road, int side, int width) {
        road.clear(1, side, width);
        int on = road.view(0, 2, 0);
        checks.due("the same, back", road.view(2, 0, 0), on);
        return on;
    }

    private static void banks() {
        checks.test("by a BANK at a station between both", () -> {
            SightRows road = Roads.straight(0);
            road.station(100, 50, 0);
            road.station(200, 100, 0);
            road.station(300, 0, 0);
            for (int side = 0; side < 2; side++) {
                road.clear(0, side, 0);
                road.clear(2, side, 0);
                road.clear(3, side, 0);
            }
            checks.due("not at the ends, nor beyond", road.view(0, 2, 0), FREE);
            checks.due("not at the ends, nor before", road.view(1, 2, 0), FREE);
            checks.due("but between", road.view(1, 3, 1), 2);
            checks.due("but between, back", road.view(3, 1, 1), 2);
        });
        checks.test("goes past that station on its left or its right", () -> {
            checks.due("past one on the right side: on its left", viewPastBank(rightOfLine(), LEFT, 0), BANK);
            checks.due("and not on its right", viewPastBank(rightOfLine(), RIGHT, 0), FREE);
            checks.due("past one on the left side: on its right", viewPastBank(leftOfLine(), RIGHT, 0), BANK);
            checks.due("and not on its left", viewPastBank(leftOfLine(), LEFT, 0), FREE);
            pastCorners(square(0, 0));
            pastCorners(square(14_990, -15_000));
            pastCorners(square(-15_000, 14_990));
        });
        checks.test("looking from the one with the lesser number to the other one", () -> {
            SightRows road = rightOfLine();
            road.clear(1, LEFT, 0);
            checks.due("on", road.view(0, 2, 0), BANK);
            checks.due("back, and left is left as before", road.view(2, 0, 0), BANK);
            SightRows other = rightOfLine();
            other.clear(1, RIGHT, 0);
            checks.due("on", other.view(0, 2, 0), FREE);
            checks.due("back, and right is right as before", other.view(2, 0, 0), FREE);
        });
        checks.test("on which side the station does not lie", () -> {
            SightRows road = Roads.bend(3, 2, 6, 4);
            checks.due("it lies on none", viewPastBank(road, LEFT, 0), FREE);
            checks.due("it lies on none", viewPastBank(road, RIGHT, 0), FREE);
        });
        checks.test("in a distance that is more than the CLEAR width told there for that side", () -> {
            checks.due("30 is more than 29", viewPastBank(rightOfLine(), LEFT, 29), BANK);
            checks.due("30 is not more than 30", viewPastBank(rightOfLine(), LEFT, 30), FREE);
            checks.due("0.7 is more than 0", viewPastBank(Roads.bend(1, 0, 2, 2), LEFT, 0), BANK);
            checks.due("0.7 is not more than 1", viewPastBank(Roads.bend(1, 0, 2, 2), LEFT, 1), FREE);
            SightRows nearly = Roads.bend(-201, 1_398, 1_200, 1_600);
            checks.due("999.6 is more than 999", viewPastBank(nearly, RIGHT, 999), BANK);
            checks.due("999.6 is not more than 1,000", viewPastBank(nearly, RIGHT, 1_000), FREE);
            checks.due("1,000 is not more", viewPastBank(Roads.bend(9, 1_000, 18, 0), RIGHT, 1_000), FREE);
            SightRows beyond = Roads.bend(-201, 1_399, 1_200, 1_600);
            checks.due("1,000.2 is more than 1,000", viewPastBank(beyond, RIGHT, 1_000), BANK);
            checks.due("0.00002 is more than 0", viewPastBank(Roads.longAndThin(LEFT), LEFT, 0), BANK);
            checks.due("0.00002 is not more than 1", viewPastBank(Roads.longAndThin(LEFT), LEFT, 1), FREE);
            checks.due("0.00002 is more than 0", viewPastBank(Roads.longAndThin(RIGHT), RIGHT, 0), BANK);
            checks.due("0.00002 is not more than 1", viewPastBank(Roads.longAndThin(RIGHT), RIGHT, 1), FREE);
        });
        checks.test("a distance from the straight line, where the road turns back beyond its end", () -> {
            // The document does not say that the line ends: the distance is taken from all of it.
            SightRows road = Roads.bend(900, 30, 100, 0);
            checks.due("30 is more than 29", viewPastBank(road, RIGHT, 29), BANK);
            checks.due("30 is not more than 30", viewPastBank(road, RIGHT, 30), FREE);
        });
        checks.test("without bound at first", () -> {
            SightRows road = new SightRows();
            road.station(-15_000, -15_000, 0);
            road.station(15_000, -15_000, 0);
            road.station(15_000, 15_000, 0);
            checks.due("21,213 at first", road.view(0, 2, 0), FREE);
            checks.due("the other side is told", viewPastBank(road, RIGHT, 0), FREE);
            checks.due("with the greatest width", viewPastBank(road, LEFT, 1_000), BANK);
        });
        checks.test("not if both lie at one point of the plane", () -> {
            checks.due("left", viewPastBank(Roads.bend(90, 40, 0, 0), LEFT, 0), FREE);
            checks.due("right", viewPastBank(Roads.bend(90, 40, 0, 0), RIGHT, 0), FREE);
            checks.due("a point beside it is enough", viewPastBank(Roads.bend(1, 40, 2, 0), RIGHT, 0), BANK);
        });
    }

    private static SightRows rightOfLine() {
        return Roads.bend(50, -30, 100, 0);
    }

    private static SightRows leftOfLine() {
        return Roads.bend(50, 30, 100, 0);
    }

    /** A square of stations somewhere in the plane, gone round on the left hand. */
    private static SightRows square(int x, int y) {
        SightRows road = new SightRows();
        road.station(x, y, 0);
        road.station(x + 10, y, 0);
        road.station(x + 10, y + 10, 0);
        road.station(x, y + 10, 0);
        road.station(x, y, 0);
        road.station(x + 10, y, 0);
        return road;
    }

    /** Each line from one corner to the next but one goes past the one between 7.1 on its left. */
    private static void pastCorners(SightRows road) {
        for (int i = 1; i < 5; i++) {
            road.clear(i, RIGHT, 0);
            road.clear(i, LEFT, 8);
            checks.due("7.1 is not more than 8", road.view(i - 1, i + 1, 0), FREE);
            road.clear(i, LEFT, 7);
            checks.due("7.1 is more than 7", road.view(i - 1, i + 1, 0), BANK);
        }
    }

    /** A view from (0, 0) to (300, 200), 500 centimetres below a box's top. */
    private static int viewPastBox(int x0, int y0, int x1, int y1) {
        SightRows road = new SightRows();
        road.station(0, 0, 0);
        road.station(300, 200, 0);
        road.box(x0, y0, x1, y1, 610);
        int on = road.view(0, 1, 0);
        checks.due("the same, back", road.view(1, 0, 0), on);
        return on;
    }

    private static int viewAlong(int y0, int y1) {
        SightRows road = Roads.straight(0, 300);
        road.box(100, y0, 200, y1, 610);
        SightRows turned = new SightRows();
        turned.station(0, 0, 0);
        turned.station(0, 300, 0);
        turned.box(y0, 100, y1, 200, 610);
        int on = road.view(0, 1, 0);
        checks.due("the same, turned", turned.view(0, 1, 0), on);
        return on;
    }

    /** A view that goes aside by a run on a length of 300, past a box that is a line along it. */
    private static int viewAside(int run, int x, int upTo) {
        SightRows road = new SightRows();
        road.station(0, 0, 0);
        road.station(run, 300, 0);
        road.box(x, 0, x, upTo, 610);
        SightRows turned = new SightRows();
        turned.station(0, 0, 0);
        turned.station(300, run, 0);
        turned.box(0, x, upTo, x, 610);
        int on = road.view(0, 1, 0);
        checks.due("the same, back", road.view(1, 0, 0), on);
        checks.due("the same, turned", turned.view(0, 1, 0), on);
        return on;
    }

    private static void boxes() {
        checks.test("by a BOX (two corners in the plane, a top in centimetres; 8 at most)", () -> {
            SightRows none = Roads.straight(0, 100);
            checks.due("no box yet", none.view(0, 1, 0), FREE);
            SightRows road = Roads.straight(0, 10, 20, 30, 40, 50, 60, 70, 80, 90);
            for (int i = 0; i < 8; i++) {
                road.box(10 * i + 5, 0, 10 * i + 5, 0, 900);
            }
            for (int i = 0; i < 8; i++) {
                checks.due("box " + i, road.view(i, i + 1, 1), i);
            }
            checks.due("a ninth one", road.box(85, 0, 85, 0, 900), BAD);
            checks.due("is not there", road.view(8, 9, 0), FREE);
        });
        checks.test("if the view has a place in common with it in the plane", TermsEdgesTest::placesInCommon);
        checks.test("(its borders count)", () -> {
            checks.due("a corner, above", viewPastBox(100, 100, 150, 150), BOX);
            checks.due("a corner, above, 1 more", viewPastBox(100, 101, 150, 150), FREE);
            checks.due("a corner, below", viewPastBox(150, 50, 240, 100), BOX);
            checks.due("a corner, below, 1 less", viewPastBox(150, 50, 240, 99), FREE);
            checks.due("along the lower border", viewAlong(0, 9), BOX);
            checks.due("along the upper border", viewAlong(-9, 0), BOX);
            checks.due("along a box that is a line", viewAlong(0, 0), BOX);
            checks.due("just below the lower border", viewAlong(1, 9), FREE);
            checks.due("just above the upper border", viewAlong(-9, -1), FREE);
            checks.due("the eye at a corner", viewPastBox(-9, -9, 0, 0), BOX);
            checks.due("the eye just beside a corner", viewPastBox(-9, -9, -1, 0), FREE);
            checks.due("the thing at a corner", viewPastBox(300, 200, 309, 209), BOX);
            checks.due("the thing just beside a corner", viewPastBox(300, 201, 309, 209), FREE);
            for (int run = -1; run <= 1; run += 2) {
                checks.due("aside by 1, at its end", viewAside(run, run, 300), BOX);
                checks.due("aside by 1, just before its end", viewAside(run, run, 299), FREE);
                checks.due("not aside yet", viewAside(run, 0, 0), BOX);
                checks.due("not to that side", viewAside(run, -run, 300), FREE);
            }
        });
        checks.test("somewhere there its height is below the top", TermsEdgesTest::belowTheTop);
        checks.test("a place in common, where both stations are at one point", () -> {
            SightRows road = Roads.straight(0, 0);
            road.box(1, 1, 9, 9, 900);
            checks.due("beside it", road.view(0, 1, 0), FREE);
            road.box(-9, -9, 0, 0, 20);
            checks.due("20 is not below 20", road.view(0, 1, 0), FREE);
            road.box(0, 0, 0, 0, 21);
            checks.due("20 is below 21", road.view(0, 1, 1), 2);
            road.heights(20, 110);
            checks.due("the eye too", road.view(0, 1, 1), 2);
            road.heights(21, 21);
            checks.due("21 is not below 21", road.view(0, 1, 0), FREE);
        });
    }

    private static void placesInCommon() {
        checks.due("all of it is over the box", viewPastBox(-15_000, -15_000, 15_000, 15_000), BOX);
        checks.due("within the view's x and y, but beside it", viewPastBox(10, 100, 100, 190), FREE);
        checks.due("beside it, on the other hand", viewPastBox(200, 10, 290, 100), FREE);
        checks.due("on its line, behind the eye", viewPastBox(-30, -20, -3, -2), FREE);
        checks.due("on its line, beyond the thing", viewPastBox(303, 202, 330, 220), FREE);
        checks.due("a point of it", viewPastBox(150, 100, 150, 100), BOX);
        checks.due("a point beside it", viewPastBox(150, 101, 150, 101), FREE);
        checks.due("before it in x", viewPastBox(-9, 0, -1, 200), FREE);
        checks.due("beyond it in x", viewPastBox(301, 0, 309, 200), FREE);
        checks.due("before it in y", viewPastBox(0, -9, 300, -1), FREE);
        checks.due("beyond it in y", viewPastBox(0, 201, 300, 209), FREE);
        checks.due("the eye alone", viewPastBox(0, 0, 0, 0), BOX);
        checks.due("the thing alone", viewPastBox(300, 200, 300, 200), BOX);
    }

    /** A view from 0 to 300, at these levels, over a box from 100 to 200. */
    private static int viewOverBox(int level, int further, int top) {
        SightRows road = new SightRows();
        road.station(0, 0, level);
        road.station(300, 0, further);
        road.box(100, -5, 200, 5, top);
        return road.view(0, 1, 0);
    }

    private static void belowTheTop() {
        checks.due("falling, 50 where it ends", viewOverBox(0, 0, 50), FREE);
        checks.due("falling, 50 is below 51", viewOverBox(0, 0, 51), BOX);
        checks.due("rising, 180 where it begins", viewOverBox(0, 300, 180), FREE);
        checks.due("rising, 180 is below 181", viewOverBox(0, 300, 181), BOX);
        checks.due("level, 110", viewOverBox(0, 90, 110), FREE);
        checks.due("level, 110 is below 111", viewOverBox(0, 90, 111), BOX);
        checks.due("a third of a centimetre above", viewOverBox(0, 1, 50), FREE);
        checks.due("a third of a centimetre below", viewOverBox(0, 1, 51), BOX);
        checks.due("below the ground, - 950", viewOverBox(-1_000, -1_000, -950), FREE);
        checks.due("below the ground, - 949", viewOverBox(-1_000, -1_000, -949), BOX);
        checks.due("below the ground, - 949.3 and - 950", viewOverBox(-1_000, -999, -950), FREE);
        checks.due("below the ground, - 949.3 and - 949", viewOverBox(-1_000, -999, -949), BOX);
        checks.due("the lowest top", viewOverBox(-100_000, -100_000, -100_000), FREE);
        checks.due("the highest top", viewOverBox(99_800, 99_800, 100_000), BOX);
        checks.due("above the highest top", viewOverBox(100_000, 100_000, 100_000), FREE);
    }

    private static void order() {
        checks.test("A view is FREE if nothing interrupts it", () -> {
            SightRows road = Roads.bend(50, -30, 100, 0);
            checks.due("nothing", road.view(0, 2, 0), FREE);
            checks.due("nothing has no number", road.view(0, 2, 1), BAD);
            checks.due("all are free", road.count(3), 3);
            road.clear(1, LEFT, 29);
            checks.due("a bank", road.count(3), 2);
            road.clear(1, LEFT, 30);
            checks.due("none", road.count(3), 3);
            road.box(50, 0, 50, 0, 66);
            checks.due("a box", road.count(3), 2);
            checks.due("ground", Roads.levels(0, 66, 0).count(3), 2);
        });
        checks.test("ground before banks before boxes", () -> {
            SightRows road = mixed();
            road.box(50, 0, 50, 0, 900);
            checks.due("a box alone", road.view(0, 4, 0), BOX);
            checks.due("a box alone, 0", road.view(0, 4, 1), 0);
            road.clear(2, LEFT, 0);
            checks.due("a bank before a box of lesser number", road.view(0, 4, 0), BANK);
            checks.due("a bank's station", road.view(0, 4, 1), 2);
            checks.due("a bank before a box, back", road.view(4, 0, 1), 2);
            SightRows ground = mixedWithGround();
            checks.due("ground before a bank of lesser number", ground.view(0, 4, 0), GROUND);
            checks.due("the ground's station", ground.view(0, 4, 1), 3);
            checks.due("ground before a bank, back", ground.view(4, 0, 0), GROUND);
            checks.due("the ground's station, back", ground.view(4, 0, 1), 3);
        });
        checks.test("each by its number", () -> {
            SightRows ground = Roads.levels(0, 0, 500, 900, 0);
            checks.due("the lesser station", ground.view(0, 4, 1), 2);
            checks.due("the lesser station, back", ground.view(4, 0, 1), 2);
            SightRows banks = mixed();
            banks.clear(3, LEFT, 0);
            banks.clear(2, LEFT, 5);
            checks.due("the lesser bank", banks.view(0, 4, 1), 2);
            checks.due("the lesser bank, back", banks.view(4, 0, 1), 2);
            SightRows boxes = mixed();
            boxes.box(350, 0, 350, 0, 900);
            boxes.box(50, 0, 50, 0, 900);
            checks.due("the lesser box, not the nearer", boxes.view(0, 4, 1), 0);
            checks.due("the lesser box, back", boxes.view(4, 0, 1), 0);
        });
    }

    /** Stations 1, 2 and 3 lie 10 right of the line from 0 to 4. */
    private static SightRows mixed() {
        SightRows road = Roads.straight(0);
        for (int x = 100; x < 400; x += 100) {
            road.station(x, -10, 0);
        }
        road.station(400, 0, 0);
        return road;
    }

    private static SightRows mixedWithGround() {
        SightRows road = Roads.straight(0);
        road.station(100, -10, 0);
        road.station(200, -10, 0);
        road.station(300, -10, 500);
        road.station(400, 0, 0);
        road.clear(1, LEFT, 0);
        road.box(50, 0, 50, 0, 900);
        return road;
    }

    private static void sight() {
        checks.test("to the last station such that the views to all stations up to it are free", () -> {
            SightRows road = Roads.levels(0, 100, 0, 1_000, 2_000);
            checks.due("2 is hidden", road.view(0, 2, 0), GROUND);
            checks.due("3 is not", road.view(0, 3, 0), FREE);
            checks.due("it ends before 2", road.sight(0, false), 1_000);
            checks.due("all the road", Roads.full().sight(0, false), 29_500);
            checks.due("all the road, back", Roads.full().sight(59, true), 29_500);
            SightRows walled = Roads.straight(0, 100, 200, 300);
            walled.box(250, 0, 250, 0, 900);
            checks.due("up to the one before", walled.sight(0, false), 200);
            checks.due("up to the one before, back", walled.sight(3, true), 0);
            checks.due("back to the first", walled.sight(2, true), 200);
        });
        checks.test("0 if the first is not", () -> {
            SightRows road = Roads.straight(0, 100, 200);
            road.box(101, 0, 101, 0, 900);
            checks.due("not the first on", road.sight(1, false), 0);
            checks.due("not the first back", road.sight(2, true), 0);
            checks.due("but the first here", road.sight(0, false), 100);
        });
        checks.test("or there is none", () -> {
            SightRows road = Roads.straight(0, 100);
            checks.due("none beyond the last", road.sight(1, false), 0);
            checks.due("none before the first", road.sight(0, true), 0);
            checks.due("one alone, on", Roads.straight(7).sight(0, false), 0);
            checks.due("one alone, back", Roads.straight(7).sight(0, true), 0);
            checks.due("none beyond the 60th", Roads.full().sight(59, false), 0);
        });
    }

    /** The need at the first of two stations, the next one so much higher after so long a way. */
    private static int needUp(int v, int react, int brake, int higher, int apart) {
        SightRows road = new SightRows();
        road.station(0, 0, 0);
        road.station(apart, 0, higher);
        road.speed(0, v);
        road.brake(react, brake);
        SightRows back = new SightRows();
        back.station(0, 0, higher);
        back.station(apart, 0, 0);
        back.speed(1, v);
        back.brake(react, brake);
        int on = road.need(0, false);
        checks.due("the same, looking back", back.need(1, true), on);
        return on;
    }

    private static void need() {
        checks.test("v REACT 10 / 36, cut off", () -> {
            checks.due("30 / 36", needUp(1, 3, 1_000, 0, 10), 0);
            checks.due("40 / 36", needUp(1, 4, 1_000, 0, 10), 1);
            checks.due("360 / 36", needUp(9, 4, 1_000, 0, 10), 10 + 3);
            checks.due("350 / 36", needUp(7, 5, 1_000, 0, 10), 9 + 1);
            checks.due("200,000 / 36", needUp(200, 100, 1_000, 0, 10), 5_555 + 1_543);
        });
        checks.test("v v 100,000 / (2,592 (BRAKE + G)), cut off", () -> {
            checks.due("0.77", needUp(1, 0, 50, 0, 10), 0);
            checks.due("3.09", needUp(2, 0, 50, 0, 10), 3);
            checks.due("6.94", needUp(3, 0, 50, 0, 10), 6);
            checks.due("just 250 with 18 and 50", needUp(18, 0, 50, 0, 10), 250);
            checks.due("each cut off by itself: 55.6 and 5.5", needUp(8, 25, 450, 0, 10), 60);
            checks.due("both cut off at once, with 0", needUp(0, 100, 50, 0, 10), 0);
        });
        checks.test("REACT in tenths of a second (25 at first)", () -> {
            SightRows road = Roads.straight(0);
            road.speed(0, 36);
            checks.due("36 25 10 / 36, and 111.1", road.need(0, false), 250 + 111);
        });
        checks.test("BRAKE in centimetres (450) a second a second", () -> {
            SightRows road = Roads.straight(0);
            road.speed(0, 200);
            checks.due("3,429.4: 3,436.9 with 449, 3,421.8 with 451", road.need(0, false), 1_388 + 3_429);
        });
        checks.test("by 10 times the difference of ways, cut off to 0", () -> {
            checks.due("up 0.98: 0", needUp(200, 0, 450, 10, 1_000), 3_429);
            checks.due("up 1.08: 1", needUp(200, 0, 450, 11, 1_000), 3_421);
            checks.due("down 0.98: 0", needUp(200, 0, 450, -10, 1_000), 3_429);
            checks.due("down 1.08: 1", needUp(200, 0, 450, -11, 1_000), 3_436);
            checks.due("up just 981", needUp(200, 0, 450, 10, 1), 1_078);
            checks.due("the steepest up", needUp(200, 0, 450, 100_000, 1), 0);
        });
        checks.test("(0 without such a station)", () -> {
            SightRows road = Roads.levels(0, 5_000);
            checks.due("none beyond the last", road.need(1, false), 347 + 214);
            checks.due("none before the first", road.need(0, true), 347 + 214);
            checks.due("one alone", Roads.straight(9).need(0, false), 347 + 214);
            checks.due("there is one: 450 + 490", road.need(0, false), 347 + 102);
            checks.due("there is one: 450 - 490", road.need(1, true), 347 + 4_822);
            SightRows more = Roads.levels(900, 0, 500, 900);
            checks.due("the next one alone: 450 + 49", more.need(1, false), 347 + 193);
            checks.due("the next one alone, back: 450 - 49", more.need(2, true), 347 + 240);
        });
        checks.test("BRAKE + G counts as 20, if it is less", () -> {
            checks.due("117 - 98 is 19, counts as 20", needUp(200, 0, 117, -1_000, 1_000), 77_160);
            checks.due("118 - 98 is 20", needUp(200, 0, 118, -1_000, 1_000), 77_160);
            checks.due("119 - 98 is 21", needUp(200, 0, 119, -1_000, 1_000), 73_486);
            checks.due("98 - 98 is 0, counts as 20", needUp(200, 0, 98, -1_000, 1_000), 77_160);
            checks.due("97 - 98 is below 0, counts as 20", needUp(200, 0, 97, -1_000, 1_000), 77_160);
            checks.due("the steepest down", needUp(200, 100, 50, -100_000, 1), 5_555 + 77_160);
        });
    }

    /** A road whose first station sees so far, and that goes on so far in all. */
    private static SightRows seeing(int sight, int length) {
        SightRows road = Roads.straight(0, sight, length);
        road.box(sight + 1, 0, sight + 1, 0, 900);
        return road;
    }

    private static void blind() {
        checks.test("if its sight is below its need", () -> {
            checks.due("561 is not below 561: station 1 is the first", seeing(561, 9_000).blind(false, 0, 0), 1);
            checks.due("560 is below 561: station 0 is the first", seeing(560, 9_000).blind(false, 0, 0), 0);
            SightRows still = Roads.fullAndDark();
            for (int i = 0; i < 60; i++) {
                still.speed(i, 0);
            }
            checks.due("0 is not below 0", still.count(4), 0);
            checks.due("0 is not below 0, back", still.count(5), 0);
        });
        checks.test("and the road goes on at least so far beyond it in that direction", () -> {
            checks.due("561 is so far", dark(561).count(4), 1);
            checks.due("560 is not", dark(560).count(4), 0);
            checks.due("561 is so far, back", dark(561).count(5), 1);
            checks.due("560 is not, back", dark(560).count(5), 0);
            checks.due("none goes on from one alone", oneInTheDark().count(4), 0);
            checks.due("none goes on from one alone, back", oneInTheDark().count(5), 0);
        });
    }

    private static SightRows dark(int length) {
        SightRows road = Roads.straight(0, length);
        road.box(0, 0, length, 0, 900);
        return road;
    }

    private static SightRows oneInTheDark() {
        SightRows road = Roads.straight(0);
        road.box(0, 0, 0, 0, 900);
        return road;
    }
}
