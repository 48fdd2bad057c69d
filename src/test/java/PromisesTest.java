/** Each promise of the document by worked examples: ordinary inputs, its edges, wrong inputs. */
public final class PromisesTest {
    private static final int BAD = -1;
    private static final int LEAST = Integer.MIN_VALUE;
    private static final int MOST = Integer.MAX_VALUE;
    private static final Checks checks = new Checks();

    public static void main(String[] args) {
        newObject();
        station();
        heights();
        clear();
        box();
        speed();
        brake();
        way();
        viewOverGround();
        viewPastBanks();
        viewPastBoxes();
        viewOrder();
        sight();
        need();
        blind();
        setBack();
        allowed();
        overtake();
        seen();
        light();
        count();
        checks.close();
    }

    private static void newObject() {
        SightRows road = new SightRows();
        checks.due("1: BAD", SightRows.BAD, BAD);
        for (int what = 0; what <= 5; what++) {
            checks.due("1: count(" + what + ")", road.count(what), 0);
        }
        checks.due("1: way(0)", road.way(0), BAD);
        checks.due("1: view(0, 1, 0)", road.view(0, 1, 0), BAD);
        checks.due("1: sight(0, false)", road.sight(0, false), BAD);
        checks.due("1: need(0, true)", road.need(0, true), BAD);
        checks.due("1: blind(false, 0, 0)", road.blind(false, 0, 0), BAD);
        checks.due("1: setBack(0, 0)", road.setBack(0, 0), BAD);
        checks.due("1: allowed(0, false)", road.allowed(0, false), BAD);
        checks.due("1: overtake(1)", road.overtake(1), 0);
        checks.due("1: seen(0, 0, 0)", road.seen(0, 0, 0), 0);
        checks.due("1: light(0, 0, 0)", road.light(0, 0, 0), BAD);
        checks.due("1: clear(0, 0, 0)", road.clear(0, 0, 0), false);
        checks.due("1: speed(0, 0)", road.speed(0, 0), false);
    }

    private static void station() {
        SightRows road = new SightRows();
        int[][] wrong = {{15_001, 0, 0}, {-15_001, 0, 0}, {0, 15_001, 0}, {0, -15_001, 0},
            {0, 0, 100_001}, {0, 0, -100_001}, {LEAST, 0, 0}, {0, MOST, 0}, {0, 0, LEAST}};
        for (int[] w : wrong) {
            checks.due("2: station, wrong", road.station(w[0], w[1], w[2]), BAD);
        }
        checks.due("2: none was made", road.count(0), 0);
        checks.due("2: station at the edges", road.station(-15_000, -15_000, -100_000), 0);
        checks.due("2: station at the edges", road.station(15_000, 15_000, 100_000), 1);
        for (int i = 2; i < 60; i++) {
            checks.due("2: station " + i, road.station(i, -i, i), i);
        }
        checks.due("2: a 61st station", road.station(0, 0, 0), BAD);
        checks.due("2: 60 stations", road.count(0), 60);
        checks.due("2: way(60)", road.way(60), BAD);
    }

    private static void heights() {
        SightRows road = Roads.levels(0, 65, 0);
        checks.due("3: at first (110 + 20) / 2 is 65", road.view(0, 2, 0), 0);
        SightRows higher = Roads.levels(0, 66, 0);
        checks.due("3: at first it is below 66", higher.view(0, 2, 0), 1);
        int[][] wrong = {{-1, 20}, {1_001, 20}, {110, -1}, {110, 1_001}, {LEAST, 0}, {0, MOST}};
        for (int[] w : wrong) {
            checks.due("3: heights, wrong", higher.heights(w[0], w[1]), false);
            checks.due("3: heights, wrong, change nothing", higher.view(0, 2, 0), 1);
            checks.due("3: heights, wrong, change nothing", road.heights(w[0], w[1]), false);
            checks.due("3: heights, wrong, change nothing", road.view(0, 2, 0), 0);
        }
        checks.due("3: heights(0, 1000)", higher.heights(0, 1_000), true);
        checks.due("3: 500 is above 66", higher.view(0, 2, 0), 0);
        checks.due("3: heights(1000, 0)", higher.heights(1_000, 0), true);
        checks.due("3: heights(131, 0)", higher.heights(131, 0), true);
        checks.due("3: 65.5 is below 66", higher.view(0, 2, 0), 1);
        checks.due("3: heights(0, 132)", higher.heights(0, 132), true);
        checks.due("3: 66 is not below 66", higher.view(0, 2, 0), 0);
    }

    private static void clear() {
        SightRows road = Roads.straight(0, 50);
        road.station(100, 60, 0);
        checks.due("4: clear(1, 1, 0)", road.clear(1, 1, 0), true);
        checks.due("4: clear(1, 0, 0)", road.clear(1, 0, 0), true);
        checks.due("4: the line is on its left", road.view(0, 2, 0), 2);
        checks.due("4: clear(1, 0, 1000)", road.clear(1, 0, 1_000), true);
        checks.due("4: told anew", road.view(0, 2, 0), 0);
        int[][] wrong = {{3, 0, 5}, {-1, 0, 5}, {1, 2, 5}, {1, -1, 5}, {1, 0, -1}, {1, 0, 1_001},
            {LEAST, 0, 5}, {MOST, 0, 5}, {1, MOST, 5}, {1, LEAST, 5}, {1, 0, LEAST}, {1, 0, MOST}};
        for (int[] w : wrong) {
            checks.due("4: clear, wrong", road.clear(w[0], w[1], w[2]), false);
            checks.due("4: clear, wrong, changes nothing", road.view(0, 2, 0), 0);
        }
        checks.due("4: widths told", road.count(2), 2);
    }

    private static void box() {
        SightRows road = Roads.straight(0, 1_000);
        int[][] wrong = {{1, 0, 0, 0, 500}, {0, 1, 0, 0, 500}, {-15_001, 0, 0, 0, 500},
            {0, -15_001, 0, 0, 500}, {0, 0, 15_001, 0, 500}, {0, 0, 0, 15_001, 500},
            {0, 0, 0, 0, 100_001}, {0, 0, 0, 0, -100_001}, {LEAST, LEAST, MOST, MOST, 500},
            {15_001, 0, 15_001, 0, 500}, {0, 15_001, 0, 15_001, 500},
            {-15_001, 0, -15_001, 0, 500}, {0, -15_001, 0, -15_001, 500}};
        for (int[] w : wrong) {
            checks.due("5: box, wrong", road.box(w[0], w[1], w[2], w[3], w[4]), BAD);
        }
        checks.due("5: none was made", road.count(1), 0);
        checks.due("5: view with none", road.view(0, 1, 0), 0);
        checks.due("5: the greatest box", road.box(-15_000, -15_000, 15_000, 15_000, -100_000), 0);
        checks.due("5: the least box", road.box(15_000, 15_000, 15_000, 15_000, 100_000), 1);
        for (int i = 2; i < 8; i++) {
            checks.due("5: box " + i, road.box(i, 5, i, 5, 0), i);
        }
        checks.due("5: a ninth box", road.box(0, 0, 1_000, 0, 500), BAD);
        checks.due("5: 8 boxes", road.count(1), 8);
        checks.due("5: the ninth is not there", road.view(0, 1, 0), 0);
    }

    private static void speed() {
        SightRows road = Roads.straight(0, 1_000);
        checks.due("6: 50 at first", road.need(0, false), 347 + 214);
        int[][] wrong = {{-1, 5}, {2, 5}, {0, -1}, {0, 201}, {MOST, 5}, {LEAST, 5}, {0, MOST}, {0, LEAST}};
        for (int[] w : wrong) {
            checks.due("6: speed, wrong", road.speed(w[0], w[1]), false);
            checks.due("6: speed, wrong, changes nothing", road.need(0, false), 347 + 214);
        }
        checks.due("6: speed(0, 200)", road.speed(0, 200), true);
        checks.due("6: need with 200", road.need(0, false), 1_388 + 3_429);
        checks.due("6: the other station's stays", road.need(1, false), 347 + 214);
        checks.due("6: speed(0, 0)", road.speed(0, 0), true);
        checks.due("6: need with 0", road.need(0, false), 0);
    }

    private static void brake() {
        SightRows road = Roads.straight(0);
        int[][] wrong = {{-1, 450}, {101, 450}, {25, 49}, {25, 1_001}, {LEAST, 450}, {25, MOST}, {25, LEAST}};
        for (int[] w : wrong) {
            checks.due("7: brake, wrong", road.brake(w[0], w[1]), false);
            checks.due("7: brake, wrong, changes nothing", road.need(0, false), 347 + 214);
        }
        checks.due("7: brake(0, 50)", road.brake(0, 50), true);
        checks.due("7: need with 0, 50", road.need(0, false), 1_929);
        checks.due("7: brake(100, 1000)", road.brake(100, 1_000), true);
        checks.due("7: need with 100, 1000", road.need(0, false), 1_388 + 96);
    }

    private static void way() {
        SightRows road = new SightRows();
        road.station(7, 7, 7);
        road.station(7, 7, 500);
        road.station(8, 8, 0);
        road.station(5, 4, 0);
        road.station(-15_000, -15_000, 0);
        road.station(15_000, 15_000, 100_000);
        checks.due("8: way(0)", road.way(0), 0);
        checks.due("8: at one point, 1 at least", road.way(1), 1);
        checks.due("8: the root of 2, cut off", road.way(2), 2);
        checks.due("8: the root of 25", road.way(3), 7);
        checks.due("8: the root of 450,240,041", road.way(4), 7 + 21_219);
        checks.due("8: the greatest distance", road.way(5), 7 + 21_219 + 42_426);
        checks.due("8: way(6)", road.way(6), BAD);
        checks.due("8: way(-1)", road.way(-1), BAD);
        checks.due("8: way of the least number", road.way(LEAST), BAD);
        checks.due("8: way of the greatest number", road.way(MOST), BAD);
        SightRows cut = new SightRows();
        for (int i = 0; i < 5; i++) {
            cut.station(i, i % 2, 0);
        }
        checks.due("8: each step is cut off by itself", cut.way(4), 4);
    }

    private static void viewOverGround() {
        SightRows road = new SightRows();
        road.station(0, 0, 0);
        road.station(100, 0, 83);
        road.station(300, 0, 0);
        checks.due("9: 80 at a third, below 83", road.view(0, 2, 0), 1);
        checks.due("9: by station 1", road.view(0, 2, 1), 1);
        checks.due("9: 50 at two thirds, back", road.view(2, 0, 0), 1);
        road.heights(113, 23);
        checks.due("9: 83 at a third is not below", road.view(0, 2, 0), 0);
        checks.due("9: no number for nothing", road.view(0, 2, 1), BAD);
        checks.due("9: 53 at two thirds, back", road.view(2, 0, 0), 1);
        road.heights(112, 24);
        checks.due("9: two thirds of a centimetre below", road.view(0, 2, 0), 1);

        SightRows bent = new SightRows();
        bent.station(0, 0, 0);
        bent.station(0, 100, 64);
        bent.station(100, 100, 0);
        checks.due("9: parts are by ways, a half here", bent.view(0, 2, 0), 0);

        SightRows low = Roads.levels(-100_000, 100_000, -100_000);
        checks.due("9: the highest ground", low.view(0, 2, 1), 1);
        checks.due("9: next stations see each other", low.view(0, 1, 0), 0);
        int[][] wrong = {{0, 0, 0}, {0, 3, 0}, {3, 0, 0}, {-1, 0, 0}, {0, -1, 0}, {0, 1, 2}, {0, 1, -1},
            {0, 2, 2}, {0, 2, -1}, {2, 2, 1}, {MOST, 0, 0}, {0, LEAST, 0}, {0, 1, MOST}, {0, 1, LEAST}};
        for (int[] w : wrong) {
            checks.due("9: view, wrong", low.view(w[0], w[1], w[2]), BAD);
        }
    }

    private static void viewPastBanks() {
        SightRows right = new SightRows();
        right.station(0, 0, 0);
        right.station(50, -30, 0);
        right.station(100, 0, 0);
        checks.due("9: without bound at first", right.view(0, 2, 0), 0);
        right.clear(1, 1, 0);
        checks.due("9: the line is not on its right", right.view(0, 2, 0), 0);
        right.clear(1, 0, 29);
        checks.due("9: 30 is more than 29", right.view(0, 2, 0), 2);
        checks.due("9: by station 1", right.view(0, 2, 1), 1);
        checks.due("9: the same side, back", right.view(2, 0, 0), 2);
        right.clear(1, 0, 30);
        checks.due("9: 30 is not more than 30", right.view(0, 2, 0), 0);

        SightRows left = new SightRows();
        left.station(0, 0, 0);
        left.station(1, 2, 0);
        left.station(2, 2, 0);
        left.clear(1, 0, 0);
        checks.due("9: the line is not on its left", left.view(0, 2, 0), 0);
        left.clear(1, 1, 0);
        checks.due("9: 0.7 is more than 0", left.view(0, 2, 0), 2);
        checks.due("9: 0.7 is more than 0, back", left.view(2, 0, 0), 2);
        left.clear(1, 1, 1);
        checks.due("9: 0.7 is not more than 1", left.view(0, 2, 0), 0);

        SightRows twice = Roads.straight(0, 100, 0);
        twice.clear(1, 0, 0);
        twice.clear(1, 1, 0);
        checks.due("9: both at one point", twice.view(0, 2, 0), 0);
        SightRows line = Roads.straight(0, 50, 100);
        line.clear(1, 0, 0);
        line.clear(1, 1, 0);
        checks.due("9: the line goes through it", line.view(0, 2, 0), 0);
        SightRows ends = Roads.straight(0, 100);
        ends.station(100, 100, 0);
        ends.clear(0, 0, 0);
        ends.clear(2, 0, 0);
        checks.due("9: banks at the ends do not count", ends.view(0, 2, 0), 0);
        SightRows wide = new SightRows();
        wide.station(-15_000, -15_000, 0);
        wide.station(15_000, -15_000, 0);
        wide.station(15_000, 15_000, 0);
        wide.clear(1, 0, 1_000);
        checks.due("9: the farthest bank", wide.view(0, 2, 0), 2);
    }

    private static int viewPast(int x0, int y0, int x1, int y1, int top) {
        SightRows road = new SightRows();
        road.station(0, 0, 0);
        road.station(300, 200, 0);
        road.box(x0, y0, x1, y1, top);
        int on = road.view(0, 1, 0);
        SightRows turned = new SightRows();
        turned.station(300, 200, 0);
        turned.station(0, 0, 0);
        turned.heights(20, 110);
        turned.box(x0, y0, x1, y1, top);
        checks.due("9: the same view, turned", turned.view(0, 1, 0), on);
        return on;
    }

    private static void viewPastBoxes() {
        checks.due("9: touched at a corner", viewPast(100, 100, 150, 150, 500), 3);
        checks.due("9: a corner just beside", viewPast(100, 101, 150, 150, 500), 0);
        checks.due("9: touched at the other corner", viewPast(160, 50, 240, 160, 500), 3);
        checks.due("9: a box that is a point", viewPast(150, 100, 150, 100, 66), 3);
        checks.due("9: 65 is not below 65", viewPast(150, 100, 150, 100, 65), 0);
        checks.due("9: its far end is lower", viewPast(120, 0, 180, 200, 57), 3);
        checks.due("9: its far end is at 56", viewPast(120, 0, 180, 200, 56), 0);
        checks.due("9: not between x and y together", viewPast(0, 100, 100, 200, 500), 0);
        checks.due("9: behind the eye", viewPast(-50, -50, -1, -1, 500), 0);
        checks.due("9: beyond the thing", viewPast(301, 201, 400, 400, 500), 0);
        checks.due("9: at the eye", viewPast(-50, -50, 0, 0, 111), 3);
        checks.due("9: at the eye, not above it", viewPast(-50, -50, 0, 0, 110), 0);
        checks.due("9: at the thing", viewPast(300, 200, 400, 400, 21), 3);
        checks.due("9: at the thing, not above it", viewPast(300, 200, 400, 400, 20), 0);
        checks.due("9: over all of it", viewPast(-15_000, -15_000, 15_000, 15_000, 21), 3);
        checks.due("9: left of it", viewPast(-10, 0, -1, 200, 500), 0);

        SightRows up = new SightRows();
        up.station(0, 0, 0);
        up.station(300, 0, 300);
        up.box(100, 0, 200, 0, 181);
        checks.due("9: its near end is lower", up.view(0, 1, 0), 3);
        checks.due("9: ends at one y, beside", viewBeside(1, 5), 0);
        checks.due("9: ends at one y, at the border", viewBeside(0, 5), 3);
        checks.due("9: ends at one y, at the other border", viewBeside(-5, 0), 3);
        checks.due("9: ends at one y, beside on the other side", viewBeside(-5, -1), 0);

        SightRows point = Roads.straight(0, 0);
        point.box(0, 0, 0, 0, 20);
        checks.due("9: at one point, not below 20", point.view(0, 1, 0), 0);
        point.box(1, 1, 2, 2, 500);
        checks.due("9: at one point, beside", point.view(0, 1, 0), 0);
        point.box(-1, -1, 0, 0, 21);
        checks.due("9: at one point, below 21", point.view(0, 1, 1), 2);
    }

    private static int viewBeside(int y0, int y1) {
        SightRows road = Roads.straight(0, 300);
        road.box(100, y0, 200, y1, 500);
        return road.view(0, 1, 0);
    }

    private static void viewOrder() {
        SightRows road = new SightRows();
        road.station(0, 0, 0);
        road.station(100, -10, 0);
        road.station(200, -10, 0);
        road.station(300, -10, 500);
        road.station(400, -10, 500);
        road.station(500, 0, 0);
        road.box(450, 5, 460, 6, 900);
        road.box(450, 0, 460, 0, 900);
        road.box(50, 0, 60, 0, 900);
        road.clear(1, 0, 9);
        road.clear(2, 0, 9);
        checks.due("9: ground before all", road.view(0, 5, 0), 1);
        checks.due("9: the lesser ground", road.view(0, 5, 1), 3);
        checks.due("9: the lesser ground, back", road.view(5, 0, 1), 3);
        road.heights(1_000, 1_000);
        checks.due("9: banks before boxes", road.view(0, 5, 0), 2);
        checks.due("9: the lesser bank", road.view(0, 5, 1), 1);
        checks.due("9: the lesser bank, back", road.view(5, 0, 1), 1);
        road.clear(1, 0, 10);
        checks.due("9: the next bank", road.view(0, 5, 1), 2);
        road.clear(2, 0, 10);
        checks.due("9: heights above the boxes", road.view(0, 5, 0), 0);
        road.box(250, 0, 250, 0, 1_001);
        checks.due("9: a box above it", road.view(0, 5, 0), 3);
        checks.due("9: that box", road.view(0, 5, 1), 3);
        road.box(10, 0, 10, 0, 1_001);
        checks.due("9: the lesser box, not the nearer one", road.view(0, 5, 1), 3);
    }

    private static void sight() {
        SightRows road = Roads.levels(0, 0, 0, 500, 0, 0);
        checks.due("10: up to the hill", road.sight(0, false), 3_000);
        checks.due("10: from the hill", road.sight(3, false), 2_000);
        checks.due("10: up to the hill, back", road.sight(5, true), 2_000);
        checks.due("10: from the hill, back", road.sight(3, true), 3_000);
        checks.due("10: none is beyond the last", road.sight(5, false), 0);
        checks.due("10: none is before the first", road.sight(0, true), 0);
        int[] wrong = {-1, 6, LEAST, MOST};
        for (int w : wrong) {
            checks.due("10: sight, wrong", road.sight(w, false), BAD);
            checks.due("10: sight, wrong", road.sight(w, true), BAD);
        }
        road.box(500, 0, 500, 0, 900);
        checks.due("10: the first is not free", road.sight(0, false), 0);
        checks.due("10: the first is not free, back", road.sight(1, true), 0);

        SightRows gap = Roads.levels(0, 100, 0, 1_000);
        checks.due("10: not the one in the dip", gap.view(0, 2, 0), 1);
        checks.due("10: the one behind it", gap.view(0, 3, 0), 0);
        checks.due("10: all up to it must be free", gap.sight(0, false), 1_000);
    }

    private static void need() {
        SightRows road = new SightRows();
        road.station(0, 0, 0);
        road.station(1_000, 0, 50);
        road.station(1_100, 0, -100);
        checks.due("11: 5 in the hundred: 981 50 / 10,000 is 4", road.need(0, false), 347 + 212);
        checks.due("11: no station behind it", road.need(0, true), 347 + 214);
        checks.due("11: down: - 147.15 to - 147", road.need(1, false), 347 + 318);
        checks.due("11: down, back: - 4.9 to - 4", road.need(1, true), 347 + 216);
        checks.due("11: up, back", road.need(2, true), 347 + 161);
        checks.due("11: no station before it", road.need(2, false), 347 + 214);
        road.brake(25, 166);
        checks.due("11: 166 - 147 counts as 20", road.need(1, false), 347 + 4_822);
        road.brake(25, 168);
        checks.due("11: 168 - 147 is 21", road.need(1, false), 347 + 4_592);
        road.speed(1, 200);
        road.brake(100, 50);
        checks.due("11: the greatest need", road.need(1, false), 5_555 + 77_160);
        int[] wrong = {-1, 3, LEAST, MOST};
        for (int w : wrong) {
            checks.due("11: need, wrong", road.need(w, false), BAD);
            checks.due("11: need, wrong", road.need(w, true), BAD);
        }
        SightRows steep = new SightRows();
        steep.station(0, 0, -100_000);
        steep.station(0, 0, 100_000);
        checks.due("11: the steepest road, up", steep.need(0, false), 347);
        checks.due("11: the steepest road, down", steep.need(1, true), 347 + 4_822);
    }

    /** Boxes between stations 0 and 1, 1 and 2, and 4 and 5 of a level road. */
    private static SightRows walled() {
        SightRows road = Roads.straight(0, 600, 1_200, 1_800, 2_400, 3_000, 3_561);
        road.box(300, 0, 300, 0, 900);
        road.box(900, 0, 900, 0, 900);
        road.box(2_700, 0, 2_700, 0, 900);
        return road;
    }

    private static void blind() {
        SightRows road = walled();
        checks.due("12: on, first of stretch 0", road.blind(false, 0, 0), 0);
        checks.due("12: on, last of stretch 0", road.blind(false, 0, 1), 1);
        checks.due("12: on, first of stretch 1", road.blind(false, 1, 0), 4);
        checks.due("12: on, last of stretch 1", road.blind(false, 1, 1), 4);
        checks.due("12: on, no stretch 2", road.blind(false, 2, 0), BAD);
        checks.due("12: back, first of stretch 0", road.blind(true, 0, 0), 1);
        checks.due("12: back, last of stretch 0", road.blind(true, 0, 1), 2);
        checks.due("12: back, first of stretch 1", road.blind(true, 1, 0), 5);
        checks.due("12: back, last of stretch 1", road.blind(true, 1, 1), 5);
        checks.due("12: back, no stretch 2", road.blind(true, 2, 1), BAD);
        int[][] wrong = {{-1, 0}, {0, -1}, {0, 2}, {MOST, 0}, {LEAST, 1}, {0, MOST}, {0, LEAST}};
        for (int[] w : wrong) {
            checks.due("12: blind, wrong", road.blind(false, w[0], w[1]), BAD);
            checks.due("12: blind, wrong", road.blind(true, w[0], w[1]), BAD);
        }
        road.box(3_200, 0, 3_200, 0, 900);
        checks.due("12: the need is 561, and so is the road left", road.blind(false, 1, 1), 5);
        road.speed(5, 51);
        checks.due("12: the road is shorter than the need", road.blind(false, 1, 1), 4);
        checks.due("12: a road to its end", endsBlind().blind(false, 0, 1), 1);
        checks.due("12: back, up to the last station", endsBlind().blind(true, 0, 1), 2);
        SightRows enough = Roads.straight(0, 561, 600);
        enough.box(570, 0, 570, 0, 900);
        checks.due("12: a sight of 561 is not below the need", enough.blind(false, 0, 0), BAD);
        enough.speed(0, 51);
        checks.due("12: a sight of 561 is below 577", enough.blind(false, 0, 0), 0);
    }

    private static SightRows endsBlind() {
        SightRows road = Roads.straight(0, 600, 1_200);
        road.box(300, 0, 300, 0, 900);
        road.box(900, 0, 900, 0, 900);
        return road;
    }

    private static void setBack() {
        SightRows road = new SightRows();
        road.station(0, 0, 0);
        road.station(100, -30, 0);
        road.station(200, 0, 0);
        checks.due("13: 30 on the left", road.setBack(1, 0), 30);
        checks.due("13: none on the right", road.setBack(1, 1), 0);
        checks.due("13: none at the first", road.setBack(0, 0), 0);
        checks.due("13: none at the last", road.setBack(2, 0), 0);
        road.clear(1, 0, 5);
        road.box(-500, -500, 500, 500, 900);
        checks.due("13: what interrupts else is left out", road.setBack(1, 0), 30);
        road.brake(0, 463);
        checks.due("13: one at its need, 208, counts", road.setBack(1, 0), 30);
        road.brake(0, 464);
        checks.due("13: one beyond its need, 207, does not", road.setBack(1, 0), 0);
        road.speed(1, 200);
        road.speed(2, 200);
        checks.due("13: the need of the others is nothing to it", road.setBack(1, 0), 0);
        int[][] wrong = {{-1, 0}, {3, 0}, {1, 2}, {1, -1}, {MOST, 0}, {LEAST, 1}, {1, MOST}, {1, LEAST}};
        for (int[] w : wrong) {
            checks.due("13: setBack, wrong", road.setBack(w[0], w[1]), BAD);
        }
        checks.due("13: 1,000", deepBend(1_000, 2_000).setBack(1, 1), 1_000);
        checks.due("13: the other side of it", deepBend(1_000, 2_000).setBack(1, 0), 0);
        checks.due("13: a little above 1,000", deepBend(1_000, 2_001).setBack(1, 1), 1_000);
        checks.due("13: 1,001", deepBend(1_001, 2_000).setBack(1, 1), BAD);

        SightRows slant = new SightRows();
        slant.station(0, 0, 0);
        slant.station(1, 0, 0);
        slant.station(2, 2, 0);
        checks.due("13: 0.7 wants 1", slant.setBack(1, 0), 1);
        SightRows more = new SightRows();
        more.station(0, 0, 0);
        more.station(100, -10, 0);
        more.station(200, -20, 0);
        more.station(300, 20, 0);
        more.station(400, 50, 0);
        checks.due("13: the most of all views", more.setBack(2, 0), 45);
        SightRows uphill = new SightRows();
        uphill.station(0, 0, 0);
        uphill.station(100, -30, 1_000);
        uphill.station(200, 0, 0);
        uphill.brake(0, 450);
        checks.due("13: the need looks on, uphill", uphill.setBack(1, 0), 0);
    }

    private static SightRows deepBend(int depth, int length) {
        SightRows road = new SightRows();
        road.station(0, 0, 0);
        road.station(length / 2, depth, 0);
        road.station(length, 0, 0);
        road.speed(0, 200);
        return road;
    }

    private static void allowed() {
        SightRows road = Roads.straight(0, 561, 5_000, 5_400);
        road.box(600, 0, 600, 0, 900);
        road.box(5_300, 0, 5_300, 0, 900);
        checks.due("14: 561 is the need with 50", road.allowed(0, false), 50);
        road.speed(0, 200);
        checks.due("14: its own speed is nothing to it", road.allowed(0, false), 50);
        checks.due("14: the road back is shorter", road.allowed(0, true), 130);
        checks.due("14: with 40 already, the road, 400, is not", road.allowed(2, false), 130);
        checks.due("14: a free road", road.allowed(1, true), 130);
        checks.due("14: back, from behind the box", road.allowed(3, true), 0);
        checks.due("14: a road of just the need is not shorter", shut(2_350).allowed(0, false), 0);
        checks.due("14: a road shorter than the need with 130", shut(2_349).allowed(0, false), 130);
        checks.due("14: a need of 0 is not above", shutWithoutNeed().allowed(0, false), 5);
        int[] wrong = {-1, 4, LEAST, MOST};
        for (int w : wrong) {
            checks.due("14: allowed, wrong", road.allowed(w, false), BAD);
            checks.due("14: allowed, wrong", road.allowed(w, true), BAD);
        }
    }

    private static SightRows shut(int length) {
        SightRows road = Roads.straight(0, length);
        road.box(1, 0, 1, 0, 900);
        return road;
    }

    private static SightRows shutWithoutNeed() {
        SightRows road = shut(2_350);
        road.brake(0, 1_000);
        return road;
    }

    private static void overtake() {
        SightRows road = Roads.straight(0, 100, 200, 300, 400, 1_000, 1_100);
        road.box(250, 0, 250, 0, 900);
        checks.due("15: sights 200, 100, 0, 800, 700, 100, 0", road.overtake(100), 700);
        checks.due("15: 101", road.overtake(101), 100);
        checks.due("15: 700 is at least 700", road.overtake(700), 100);
        checks.due("15: one alone", road.overtake(701), 0);
        checks.due("15: from none", road.overtake(801), 0);
        checks.due("15: the least wanted", road.overtake(1), 700);
        checks.due("15: the most wanted", road.overtake(1_000_000), 0);
        int[] wrong = {0, -1, 1_000_001, LEAST, MOST};
        for (int w : wrong) {
            checks.due("15: overtake, wrong", road.overtake(w), BAD);
        }
        SightRows first = Roads.straight(0, 900, 1_000, 1_100, 1_200, 1_300);
        first.box(1_050, 0, 1_050, 0, 900);
        checks.due("15: the greatest, not the last", first.overtake(50), 900);
    }

    private static void seen() {
        SightRows road = Roads.straight(0, 1_000, 2_000, 3_000);
        checks.due("16: from all, 3,000 at most", road.seen(0, 0, 200), 4);
        checks.due("16: one is farther", road.seen(-1, 0, 200), 3);
        checks.due("16: farther by less than a decimetre", road.seen(0, 1, 200), 3);
        checks.due("16: aslant, 1,800 and 2,400", Roads.straight(0).seen(1_800, 2_400, 0), 1);
        checks.due("16: aslant, farther", Roads.straight(0).seen(1_800, 2_401, 0), 0);
        checks.due("16: the farthest corner", Roads.straight(0).seen(-15_000, 15_000, 0), 0);
        road.box(500, -5, 500, 5, 111);
        checks.due("16: 110 at the eye, 111 the box", road.seen(0, 0, 111), 1);
        checks.due("16: 110 or above past it, and the sign too", road.seen(0, 0, 112), 4);
        road.box(0, -1, 0, 1, 113);
        checks.due("16: the sign is in a box", road.seen(0, 0, 112), 0);
        checks.due("16: it is not below its top", road.seen(0, 0, 1_000), 3);
        road.heights(113, 20);
        checks.due("16: eyes above the box", road.seen(0, 0, 1_000), 4);

        SightRows hilly = Roads.levels(0, 1_000, 0);
        hilly.clear(1, 0, 0);
        checks.due("16: ground is nothing to it", hilly.seen(2_000, 0, 0), 3);
        SightRows high = Roads.levels(1_000);
        high.box(100, -5, 100, 5, 600);
        checks.due("16: eyes stand on their level, the sign does not", high.seen(200, 0, 89), 0);
        checks.due("16: 1,110 and 90 give 600", high.seen(200, 0, 90), 1);
        int[][] wrong = {{15_001, 0, 0}, {-15_001, 0, 0}, {0, 15_001, 0}, {0, -15_001, 0},
            {0, 0, 100_001}, {0, 0, -100_001}, {LEAST, 0, 0}, {0, MOST, 0}, {0, 0, LEAST}};
        for (int[] w : wrong) {
            checks.due("16: seen, wrong", road.seen(w[0], w[1], w[2]), BAD);
        }
        checks.due("16: the highest sign", Roads.straight(15_000).seen(15_000, 0, 100_000), 1);
        checks.due("16: the lowest sign", Roads.straight(-15_000).seen(-15_000, 0, -100_000), 1);
    }

    private static void light() {
        SightRows road = Roads.levels(50, 50, 150, 130, 0);
        checks.due("17: 100 above 50 is 150", road.light(0, 100, 0), 4_000);
        checks.due("17: 99 is not enough", road.light(0, 99, 0), 1_000);
        checks.due("17: a rise of 5: 100 on 2,000", road.light(0, 0, 5), 4_000);
        checks.due("17: a rise of 4: 80 on 2,000", road.light(0, 0, 4), 1_000);
        checks.due("17: up to the first that is above", road.light(1, 90, 0), 0);
        checks.due("17: down from the hill", road.light(2, 0, 0), 2_000);
        checks.due("17: from the last", road.light(4, 1_000, 100), 0);
        int[][] wrong = {{-1, 0, 0}, {5, 0, 0}, {0, -1, 0}, {0, 1_001, 0}, {0, 0, -1}, {0, 0, 101},
            {MOST, 0, 0}, {LEAST, 0, 0}, {0, MOST, 0}, {0, LEAST, 0}, {0, 0, MOST}, {0, 0, LEAST}};
        for (int[] w : wrong) {
            checks.due("17: light, wrong", road.light(w[0], w[1], w[2]), BAD);
        }
        SightRows cut = Roads.straight(0);
        cut.station(199, 0, 2);
        checks.due("17: 1.99 is cut off to 1", cut.light(0, 0, 1), 0);
        cut.station(200, 0, 3);
        checks.due("17: the lamp and the rise", cut.light(0, 1, 1), 200);
        SightRows steep = Roads.levels(0, 1_000 + 1_000, 3_001);
        checks.due("17: the highest lamp, the greatest rise", steep.light(0, 1_000, 100), 1_000);
    }

    private static void count() {
        SightRows road = walled();
        checks.due("18: stations", road.count(0), 7);
        checks.due("18: boxes", road.count(1), 3);
        checks.due("18: no widths told", road.count(2), 0);
        road.clear(0, 0, 5);
        road.clear(0, 0, 6);
        road.clear(0, 1, 0);
        road.clear(6, 1, 1_000);
        road.clear(6, 2, 1_000);
        checks.due("18: widths told, each once", road.count(2), 3);
        checks.due("18: free views: 2 3, 2 4, 3 4, 5 6", road.count(3), 4);
        checks.due("18: blind on", road.count(4), 3);
        checks.due("18: blind back", road.count(5), 3);
        road.speed(5, 0);
        checks.due("18: blind back, but for one", road.count(5), 2);
        checks.due("18: blind on, as before", road.count(4), 3);
        SightRows crest = Roads.straight(0);
        crest.station(100, 0, 83);
        crest.station(300, 0, 0);
        checks.due("18: not over the crest", crest.count(3), 2);
        crest.heights(113, 23);
        checks.due("18: over it on, though not back", crest.count(3), 3);
        crest.heights(23, 113);
        checks.due("18: over it back alone", crest.count(3), 2);
        int[] wrong = {-1, 6, LEAST, MOST};
        for (int w : wrong) {
            checks.due("18: count, wrong", road.count(w), BAD);
        }
        SightRows all = new SightRows();
        for (int i = 0; i < 60; i++) {
            all.station(500 * i - 15_000, 0, 0);
        }
        checks.due("18: all views are free", all.count(3), 60 * 59 / 2);
    }
}
