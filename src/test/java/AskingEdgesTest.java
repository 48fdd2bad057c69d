/** The boundaries that the promises 8 to 18 name: each sentence by a test of its own. */
public final class AskingEdgesTest {
    private static final int BAD = -1;
    private static final int LEFT = 0;
    private static final int RIGHT = 1;
    private static final Checks checks = new Checks();
    private static final Ranges ranges = new Ranges(checks);

    public static void main(String[] args) {
        way();
        view();
        sightAndNeed();
        blind();
        setBack();
        allowed();
        overtake();
        seen();
        light();
        count();
        checks.close();
    }

    private static void way() {
        checks.test("8: A station's way.", () -> {
            SightRows road = Roads.full();
            checks.due("the first", road.way(0), 0);
            checks.due("the second", road.way(1), 500);
            checks.due("the last but one", road.way(58), 29_000);
            checks.due("the last", road.way(59), 29_500);
        });
        checks.test("8: BAD: none such.", () ->
            ranges.askingStation("way", (road, station) -> road.way(station) != BAD));
    }

    private static void view() {
        checks.test("9: what 0: 0 nothing, 1 ground, 2 a bank, 3 a box", () -> {
            checks.due("nothing", Roads.levels(0, 65, 0).view(0, 2, 0), 0);
            checks.due("ground", Roads.levels(0, 66, 0).view(0, 2, 0), 1);
            SightRows bank = Roads.bend(50, -30, 100, 0);
            bank.clear(1, LEFT, 29);
            checks.due("a bank", bank.view(0, 2, 0), 2);
            SightRows box = Roads.straight(0, 2);
            box.box(1, 0, 1, 0, 66);
            checks.due("a box", box.view(0, 1, 0), 3);
        });
        checks.test("9: 1 the number of that station, or box", AskingEdgesTest::viewNumbers);
        checks.test("9: (BAD for nothing)", () -> {
            SightRows road = Roads.straight(0, 300, 600);
            road.box(450, 0, 450, 0, 900);
            checks.due("nothing", road.view(0, 1, 1), BAD);
            checks.due("nothing, back", road.view(1, 0, 1), BAD);
            checks.due("box 0 is something", road.view(1, 2, 1), 0);
            checks.due("from the first to the last of 60", Roads.full().view(0, 59, 1), BAD);
        });
        checks.test("9: another what", () -> {
            ranges.asking("what, interrupted", Roads::sample, 0, 1, (road, what) -> road.view(0, 3, what) != BAD);
            ranges.asking("what, free", Roads::sample, 0, 0, (road, what) -> road.view(0, 1, what) != BAD);
        });
        checks.test("9: BAD: none such", () -> {
            ranges.asking("from, none yet", SightRows::new, 0, -1, (road, from) -> road.view(from, 0, 0) != BAD);
            ranges.asking("to, none yet", SightRows::new, 0, -1, (road, to) -> road.view(0, to, 0) != BAD);
            ranges.asking("from", Roads::sample, 1, 5, (road, from) -> road.view(from, 0, 0) != BAD);
            ranges.asking("to", Roads::sample, 1, 5, (road, to) -> road.view(0, to, 0) != BAD);
            ranges.asking("from", Roads::sample, 0, 4, (road, from) -> road.view(from, 5, 0) != BAD);
            ranges.asking("to", Roads::sample, 0, 4, (road, to) -> road.view(5, to, 0) != BAD);
            ranges.asking("from, of 60", Roads::full, 0, 58, (road, from) -> road.view(from, 59, 0) != BAD);
            ranges.asking("to, of 60", Roads::full, 1, 59, (road, to) -> road.view(0, to, 0) != BAD);
            checks.due("from before the first", Roads.sample().view(-1, 1, 0), BAD);
            checks.due("to beyond the last", Roads.sample().view(1, 6, 0), BAD);
            checks.due("neither", Roads.sample().view(6, -1, 0), BAD);
        });
        checks.test("9: BAD: both are one", () -> {
            SightRows road = Roads.sample();
            for (int i = 0; i < 6; i++) {
                checks.due("both are one", road.view(i, i, 0), BAD);
                checks.due("both are one", road.view(i, i, 1), BAD);
            }
            checks.due("one alone", Roads.straight(0).view(0, 0, 0), BAD);
            checks.due("two at one point are not one", Roads.straight(0, 0).view(0, 1, 0), 0);
            checks.due("two at one point are not one, back", Roads.straight(0, 0).view(1, 0, 0), 0);
        });
    }

    private static void viewNumbers() {
        for (int i = 1; i < 59; i++) {
            SightRows road = new SightRows();
            for (int j = 0; j < 60; j++) {
                road.station(j, 0, j == i ? 500 : 0);
            }
            checks.due("ground", road.view(0, 59, 1), i);
            checks.due("ground, back", road.view(59, 0, 1), i);
        }
        for (int i = 1; i < 59; i++) {
            SightRows road = new SightRows();
            for (int j = 0; j < 60; j++) {
                road.station(j, j % 59 == 0 ? 0 : 5, 0);
            }
            road.clear(i, RIGHT, 4);
            checks.due("a bank", road.view(0, 59, 1), i);
            checks.due("a bank, back", road.view(59, 0, 1), i);
        }
        for (int i = 0; i < 8; i++) {
            SightRows road = Roads.straight(0, 300);
            for (int j = 0; j < 8; j++) {
                road.box(100 + j, 0, 100 + j, j == i ? 0 : 1, j == i ? 900 : -900);
            }
            checks.due("a box", road.view(0, 1, 1), i);
            checks.due("a box, back", road.view(1, 0, 1), i);
        }
    }

    private static void sightAndNeed() {
        checks.test("10: The sight from a station.", () -> {
            SightRows road = Roads.full();
            checks.due("from the first on", road.sight(0, false), 29_500);
            checks.due("from the first back", road.sight(0, true), 0);
            checks.due("from the last but one on", road.sight(58, false), 500);
            checks.due("from the last but one back", road.sight(58, true), 29_000);
            checks.due("from the last on", road.sight(59, false), 0);
            checks.due("from the last back", road.sight(59, true), 29_500);
            checks.due("in the dark, on", Roads.fullAndDark().sight(0, false), 0);
            checks.due("in the dark, back", Roads.fullAndDark().sight(59, true), 0);
        });
        checks.test("10: BAD: none such.", () -> {
            ranges.askingStation("sight on", (road, station) -> road.sight(station, false) != BAD);
            ranges.askingStation("sight back", (road, station) -> road.sight(station, true) != BAD);
        });
        checks.test("11: The need at a station with its speed.", () -> {
            SightRows road = Roads.straight(0, 1_000);
            road.speed(0, 0);
            road.speed(1, 200);
            checks.due("the least speed", road.need(0, false), 0);
            checks.due("the greatest speed", road.need(1, true), 1_388 + 3_429);
            road.brake(100, 50);
            checks.due("the least speed, slow", road.need(0, true), 0);
            checks.due("the greatest speed, slow", road.need(1, false), 5_555 + 30_864);
        });
        checks.test("11: BAD: none such.", () -> {
            ranges.askingStation("need on", (road, station) -> road.need(station, false) != BAD);
            ranges.askingStation("need back", (road, station) -> road.need(station, true) != BAD);
        });
    }

    /** Each other station stands still and needs no sight: the rest are stretches of one. */
    private static SightRows combed(int still) {
        SightRows road = Roads.fullAndDark();
        for (int i = still; i < 60; i += 2) {
            road.speed(i, 0);
        }
        road.speed(59 - still, 45);
        road.speed(1 - still, 45);
        return road;
    }

    private static void blind() {
        checks.test("12: The k-th stretch of stations one behind the other that are blind", () -> {
            ranges.asking("k on", () -> combed(1), 0, 29, (road, k) -> road.blind(false, k, 0) != BAD);
            ranges.asking("k back", () -> combed(0), 0, 29, (road, k) -> road.blind(true, k, 1) != BAD);
            ranges.asking("k, one stretch", Roads::fullAndDark, 0, 0, (road, k) -> road.blind(false, k, 1) != BAD);
            SightRows on = combed(1);
            SightRows back = combed(0);
            for (int k = 0; k < 30; k++) {
                checks.due("on, one alone, its first", on.blind(false, k, 0), 2 * k);
                checks.due("on, one alone, its last", on.blind(false, k, 1), 2 * k);
                checks.due("back, one alone, its first", back.blind(true, k, 0), 2 * k + 1);
                checks.due("back, one alone, its last", back.blind(true, k, 1), 2 * k + 1);
            }
        });
        checks.test("12: 0 its first, 1 its last one (the lesser and the greater number)", () -> {
            ranges.asking("what", Roads::fullAndDark, 0, 1, (road, what) -> road.blind(false, 0, what) != BAD);
            ranges.asking("what, back", Roads::fullAndDark, 0, 1, (road, what) -> road.blind(true, 0, what) != BAD);
            SightRows road = Roads.fullAndDark();
            checks.due("on, from the first station", road.blind(false, 0, 0), 0);
            checks.due("on, as far as the road is long enough", road.blind(false, 0, 1), 57);
            checks.due("back, as far as the road is long enough", road.blind(true, 0, 0), 2);
            checks.due("back, to the last station", road.blind(true, 0, 1), 59);
            road.speed(30, 0);
            checks.due("on, two stretches", road.blind(false, 0, 1), 29);
            checks.due("on, the second's first", road.blind(false, 1, 0), 31);
            checks.due("back, two stretches", road.blind(true, 0, 1), 29);
            checks.due("back, the second's last", road.blind(true, 1, 1), 59);
        });
        checks.test("12: BAD: none such.", () -> {
            checks.due("no station", new SightRows().blind(false, 0, 0), BAD);
            checks.due("no station, back", new SightRows().blind(true, 0, 1), BAD);
            checks.due("one alone", Roads.straight(0).blind(false, 0, 0), BAD);
            checks.due("none is blind", Roads.full().blind(false, 0, 0), BAD);
            checks.due("none is blind, back", Roads.full().blind(true, 0, 1), BAD);
            checks.due("no second one", Roads.fullAndDark().blind(false, 1, 0), BAD);
            checks.due("no second one, back", Roads.fullAndDark().blind(true, 1, 0), BAD);
            checks.due("before the first one", Roads.fullAndDark().blind(false, -1, 0), BAD);
            checks.due("before the first one, back", Roads.fullAndDark().blind(true, -1, 1), BAD);
        });
    }

    /** A bend whose first station has the greatest speed: its need is 4,817. */
    private static SightRows fastBend(int x1, int y1, int x2, int y2) {
        SightRows road = Roads.bend(x1, y1, x2, y2);
        road.speed(0, 200);
        return road;
    }

    private static void setBack() {
        checks.test("13: The least clear width on a side of a station", () -> {
            SightRows[] bends = {fastBend(50, -30, 100, 0), fastBend(1, 0, 2, 2), fastBend(400, -996, 800, 7),
                fastBend(123, -45, 678, 9)};
            int[] due = {30, 1, 1_000, 47};
            for (int i = 0; i < bends.length; i++) {
                checks.due("least", bends[i].setBack(1, LEFT), due[i]);
                bends[i].clear(1, LEFT, due[i]);
                checks.due("with it, the view is free", bends[i].view(0, 2, 0), 0);
                bends[i].clear(1, LEFT, due[i] - 1);
                checks.due("with 1 less, it is not", bends[i].view(0, 2, 0), 2);
                checks.due("the told width is nothing to it", bends[i].setBack(1, LEFT), due[i]);
                checks.due("the other side", bends[i].setBack(1, RIGHT), 0);
            }
        });
        checks.test("13: The least clear width, where the line is just beside the station", () -> {
            for (int side = 0; side < 2; side++) {
                SightRows thin = Roads.longAndThin(side);
                thin.speed(0, 200);
                thin.brake(100, 50);
                checks.due("the need is long enough", thin.need(0, false) >= thin.way(2), true);
                checks.due("0.00002 wants 1", thin.setBack(1, side), 1);
                checks.due("the other side", thin.setBack(1, 1 - side), 0);
            }
        });
        checks.test("13: 0 where no view goes past", () -> {
            SightRows road = fastBend(50, -30, 100, 0);
            for (int side = 0; side < 2; side++) {
                checks.due("the first station", road.setBack(0, side), 0);
                checks.due("the last station", road.setBack(2, side), 0);
                checks.due("one alone", Roads.straight(0).setBack(0, side), 0);
                checks.due("on the line", fastBend(3, 2, 6, 4).setBack(1, side), 0);
                checks.due("both ends at one point", fastBend(90, 40, 0, 0).setBack(1, side), 0);
            }
        });
        checks.test("13: from a station on to one not farther than its need", () -> {
            SightRows road = Roads.bend(100, -30, 200, 0);
            road.brake(0, 463);
            checks.due("208 is not farther than 208", road.setBack(1, LEFT), 30);
            road.brake(0, 464);
            checks.due("208 is farther than 207", road.setBack(1, LEFT), 0);
            SightRows long60 = bow();
            checks.due("from the first to the last of 60", long60.setBack(30, LEFT), 500);
            long60.speed(0, 0);
            checks.due("but not without that need", long60.setBack(30, LEFT), 0);
        });
        checks.test("13: (with what interrupts else left out)", () -> {
            SightRows road = Roads.levels(0);
            road.station(100, -30, 5_000);
            road.station(200, -30, 0);
            road.station(300, 0, 0);
            road.speed(0, 200);
            road.brake(100, 50);
            road.clear(2, LEFT, 0);
            road.box(-500, -500, 500, 500, 9_000);
            checks.due("ground, a box and another bank are there", road.setBack(1, LEFT), 30);
            checks.due("ground, a box and its own width are there", road.setBack(2, LEFT), 30);
        });
        checks.test("13: looking on alone", () -> {
            SightRows road = Roads.bend(100, -30, 200, 0);
            road.speed(0, 0);
            road.speed(1, 200);
            road.speed(2, 200);
            checks.due("the need looking back is nothing to it", road.setBack(1, LEFT), 0);
            road.speed(0, 200);
            road.speed(2, 0);
            checks.due("the need looking on is", road.setBack(1, LEFT), 30);
        });
        checks.test("13: BAD: none such", () -> {
            ranges.askingStation("setBack", (road, station) -> road.setBack(station, LEFT) != BAD);
            ranges.askingStation("setBack, right", (road, station) -> road.setBack(station, RIGHT) != BAD);
            ranges.asking("side", Roads::sample, 0, 1, (road, side) -> road.setBack(2, side) != BAD);
            ranges.asking("side at the first", Roads::sample, 0, 1, (road, side) -> road.setBack(0, side) != BAD);
        });
        checks.test("13: BAD: it would be above 1,000.", () -> {
            checks.due("1,000", fastBend(9, 1_000, 18, 0).setBack(1, RIGHT), 1_000);
            checks.due("999.6", fastBend(-201, 1_398, 1_200, 1_600).setBack(1, RIGHT), 1_000);
            checks.due("1,000.2", fastBend(-201, 1_399, 1_200, 1_600).setBack(1, RIGHT), BAD);
            checks.due("1,001", fastBend(9, 1_001, 18, 0).setBack(1, RIGHT), BAD);
            checks.due("the other side", fastBend(9, 1_001, 18, 0).setBack(1, LEFT), 0);
            checks.due("the most that its need lets be", farthest().setBack(1, LEFT), BAD);
        });
    }

    /** 60 stations: all but the first and the last lie 500 right of the line of these two. */
    private static SightRows bow() {
        SightRows road = new SightRows();
        for (int i = 0; i < 60; i++) {
            road.station(50 * i, i % 59 == 0 ? 0 : -500, 0);
        }
        for (int i = 1; i < 60; i++) {
            road.speed(i, 0);
        }
        road.speed(0, 200);
        return road;
    }

    /** Three corners of the plane, and a need (down, with a slow brake) that is as long. */
    private static SightRows farthest() {
        SightRows road = new SightRows();
        road.station(-15_000, -15_000, 100_000);
        road.station(15_000, -15_000, 0);
        road.station(15_000, 15_000, 0);
        road.speed(0, 200);
        road.brake(100, 50);
        checks.due("the need is as long as the road", road.need(0, false) >= road.way(2), true);
        return road;
    }

    /** A road on which one sees so far from station 0 on, and from the last one back. */
    private static SightRows seeing(int sight) {
        SightRows road = Roads.straight(0, sight, 9_000 - sight, 9_000);
        road.box(sight + 1, 0, 9_000 - sight - 1, 0, 900);
        return road;
    }

    private static SightRows dark(int length) {
        SightRows road = Roads.straight(0, length);
        road.box(0, 0, length, 0, 900);
        return road;
    }

    private static void allowedBoth(String name, SightRows road, int due) {
        checks.due(name, road.allowed(0, false), due);
        checks.due(name + ", back", road.allowed(road.count(0) - 1, true), due);
    }

    private static void allowed() {
        checks.test("14: The greatest speed of 5, 10, .. 130", () -> {
            allowedBoth("a sight of 9,000 is enough for more", Roads.straight(0, 4_000, 9_000), 130);
            allowedBoth("2,350 is the need with 130", seeing(2_350), 130);
            allowedBoth("2,349 is below it", seeing(2_349), 125);
            allowedBoth("77 is the need with 10", seeing(77), 10);
            allowedBoth("76 is below it", seeing(76), 5);
            allowedBoth("36 is the need with 5", seeing(36), 5);
        });
        checks.test("14: with which the need is not above the sight", () -> {
            allowedBoth("561 is not above 561", seeing(561), 50);
            allowedBoth("561 is above 560", seeing(560), 45);
            allowedBoth("576, the need with 51, is no other than 50", seeing(576), 50);
            SightRows shut = dark(9_000);
            shut.brake(0, 1_000);
            allowedBoth("0, the need with 5, is not above 0", shut, 5);
            shut.speed(0, 200);
            shut.speed(1, 200);
            allowedBoth("its own speed is nothing to it", shut, 5);
        });
        checks.test("14: or than which the road is shorter in that direction", () -> {
            allowedBoth("2,349 is shorter than 2,350", dark(2_349), 130);
            allowedBoth("2,350 is not", dark(2_350), 0);
            allowedBoth("one alone", Roads.straight(0), 130);
            SightRows road = Roads.full();
            checks.due("none beyond the last", road.allowed(59, false), 130);
            checks.due("none before the first", road.allowed(0, true), 130);
        });
        checks.test("14: 0 for none", () -> {
            allowedBoth("36, the need with 5, is above 35", seeing(35), 0);
            allowedBoth("above 1", seeing(1), 0);
            allowedBoth("above 0", dark(9_000), 0);
        });
        checks.test("14: BAD: none such.", () -> {
            ranges.askingStation("allowed on", (road, station) -> road.allowed(station, false) != BAD);
            ranges.askingStation("allowed back", (road, station) -> road.allowed(station, true) != BAD);
        });
    }

    private static void overtake() {
        checks.test("15: The greatest difference of ways between two stations", () -> {
            SightRows road = Roads.straight(0, 100, 200, 300, 400, 1_000, 1_100);
            road.box(250, 0, 250, 0, 900);
            checks.due("the second stretch", road.overtake(100), 700);
            SightRows first = Roads.straight(0, 900, 1_000, 1_100, 1_200);
            first.box(1_050, 0, 1_050, 0, 900);
            checks.due("the first stretch", first.overtake(100), 900);
            checks.due("all but the last of 60", Roads.full().overtake(500), 29_000);
        });
        checks.test("15: from all stations from the one to the other (both too)", () -> {
            SightRows road = Roads.straight(0, 100, 200, 300, 400, 500);
            road.box(250, 0, 250, 0, 900);
            checks.due("not past the one that does not see", road.overtake(1), 100);
            SightRows ends = Roads.straight(0, 100, 200, 300);
            ends.box(50, 0, 50, 0, 900);
            checks.due("neither first nor last see: 1 to 2", ends.overtake(1), 100);
        });
        checks.test("15: the sight on is at least so much", () -> {
            SightRows road = Roads.full();
            checks.due("from 0 and 1 it is 29,000", road.overtake(29_000), 500);
            checks.due("from 1 it is below 29,001", road.overtake(29_001), 0);
            SightRows back = Roads.straight(0, 100, 200);
            back.box(50, 0, 50, 0, 900);
            checks.due("on alone: from 1, not from 2", back.overtake(100), 0);
        });
        checks.test("15: 0, if from none, or one alone.", () -> {
            checks.due("no stations", new SightRows().overtake(1), 0);
            checks.due("one station", Roads.straight(0).overtake(1), 0);
            checks.due("from one of two", Roads.straight(0, 100).overtake(100), 0);
            checks.due("from none of two", Roads.straight(0, 100).overtake(101), 0);
            checks.due("from one of 60", Roads.full().overtake(29_500), 0);
            checks.due("from none of 60", Roads.full().overtake(29_501), 0);
            checks.due("from none in the dark", Roads.fullAndDark().overtake(1), 0);
        });
        checks.test("15: BAD: the wanted sight is not 1 .. 1,000,000.", () -> {
            ranges.asking("wanted", Roads::sample, 1, 1_000_000, (road, wanted) -> road.overtake(wanted) != BAD);
            ranges.asking("none yet", SightRows::new, 1, 1_000_000, (road, wanted) -> road.overtake(wanted) != BAD);
            SightRows road = new SightRows();
            for (int i = 0; i < 60; i++) {
                road.station(i % 2 == 0 ? -15_000 : 15_000, i % 2 == 0 ? -15_000 : 15_000, 0);
            }
            checks.due("so far from the first 36", road.overtake(1_000_000), 35 * 42_426);
            checks.due("all but the last", road.overtake(1), 58 * 42_426);
        });
    }

    private static void seen() {
        checks.test("16: From how many stations a sign is seen", () -> {
            checks.due("no station", new SightRows().seen(0, 0, 0), 0);
            checks.due("one at the sign", Roads.straight(0).seen(0, 0, 0), 1);
            SightRows all = new SightRows();
            for (int i = 0; i < 60; i++) {
                all.station(100 * i, 0, 0);
            }
            checks.due("all there are", all.seen(2_950, 0, 0), 60);
            checks.due("none", all.seen(-15_000, 0, 0), 0);
            checks.due("the first seven", Roads.full().seen(-15_000, 0, 0), 7);
            checks.due("the last ones", Roads.full().seen(15_000, 0, 0), 6);
        });
        checks.test("16: those not farther than 3,000 decimetres in the plane", () -> {
            int[][] near = {{3_000, 0}, {-3_000, 0}, {0, 3_000}, {0, -3_000}, {1_800, 2_400}, {-2_400, -1_800},
                {2_999, 77}};
            int[][] far = {{3_001, 0}, {-3_001, 0}, {0, 3_001}, {0, -3_001}, {3_000, 1}, {1, -3_000}, {1_800, 2_401},
                {2_999, 78}, {3_000, 3_000}, {-3_000, -3_000}};
            int[][] places = {{0, 0}, {11_000, -11_900}, {-11_900, 11_000}, {11_999, 11_999}};
            for (int[] place : places) {
                SightRows road = new SightRows();
                road.station(place[0], place[1], 0);
                for (int[] p : near) {
                    checks.due("near", road.seen(place[0] + p[0], place[1] + p[1], 0), 1);
                }
                for (int[] p : far) {
                    checks.due("far", road.seen(place[0] + p[0], place[1] + p[1], 0), 0);
                }
                checks.due("heights are nothing to it", road.seen(place[0] + 3_000, place[1], 100_000), 1);
            }
            checks.due("the farthest corner", Roads.straight(0).seen(15_000, 15_000, 0), 0);
            checks.due("the other one", Roads.straight(0).seen(-15_000, -15_000, 0), 0);
        });
        checks.test("16: (centimetres, no level is added)", () -> {
            SightRows road = Roads.levels(5_000);
            road.box(0, 0, 0, 0, 5_110);
            checks.due("an eye at 5,110 and a sign at 5,110", road.seen(0, 0, 5_110), 1);
            checks.due("an eye at 5,110 and a sign at 5,109", road.seen(0, 0, 5_109), 0);
        });
        checks.test("16: from whose eyes no box interrupts the view to it", () -> {
            SightRows road = Roads.straight(0);
            road.box(100, 0, 100, 0, 111);
            checks.due("beyond the box, 111", road.seen(200, 0, 112), 1);
            checks.due("beyond the box, 110.5", road.seen(200, 0, 111), 0);
            checks.due("in the box, 111", road.seen(100, 0, 111), 1);
            checks.due("in the box, 110", road.seen(100, 0, 110), 0);
            checks.due("before the box", road.seen(99, 0, 0), 1);
            checks.due("beside the box", road.seen(200, 1, 0), 1);
            SightRows aside = new SightRows();
            aside.station(300, -700, 0);
            aside.box(400, -600, 400, -600, 900);
            checks.due("beyond the box, aslant", aside.seen(500, -500, 0), 0);
            checks.due("before the box, aslant", aside.seen(399, -601, 0), 1);
            checks.due("beside the box, aslant", aside.seen(500, -501, 0), 1);
            SightRows hilly = Roads.levels(0, 9_000, 0);
            hilly.clear(1, LEFT, 0);
            hilly.clear(1, RIGHT, 0);
            checks.due("ground and banks are nothing to it", hilly.seen(2_000, 10, 0), 3);
            SightRows eight = Roads.straight(0);
            for (int i = 0; i < 7; i++) {
                eight.box(100, 5, 100, 5, 900);
            }
            checks.due("seven boxes beside it", eight.seen(200, 0, 0), 1);
            eight.box(100, 0, 100, 0, 900);
            checks.due("the eighth", eight.seen(200, 0, 0), 0);
        });
        checks.test("16: BAD: x, y are not - 15,000 .. 15,000", () -> {
            ranges.asking("x", Roads::sample, -15_000, 15_000, (road, x) -> road.seen(x, 0, 0) != BAD);
            ranges.asking("y", Roads::sample, -15_000, 15_000, (road, y) -> road.seen(0, y, 0) != BAD);
            ranges.asking("x, none yet", SightRows::new, -15_000, 15_000, (road, x) -> road.seen(x, 0, 0) != BAD);
            ranges.asking("y, none yet", SightRows::new, -15_000, 15_000, (road, y) -> road.seen(0, y, 0) != BAD);
            checks.due("at the edge of the plane", Roads.straight(15_000).seen(15_000, 0, 0), 1);
            checks.due("at the other edge", Roads.straight(-15_000).seen(-15_000, 0, 0), 1);
        });
        checks.test("16: BAD: height not - 100,000 .. 100,000.", () -> {
            ranges.asking("height", Roads::sample, -100_000, 100_000, (road, height) -> road.seen(0, 0, height) != BAD);
            SightRows road = Roads.straight(0);
            road.box(1_500, 0, 1_500, 0, 50_055);
            checks.due("110 and 100,000 give 50,055", road.seen(3_000, 0, 100_000), 1);
            checks.due("110 and 99,999 give less", road.seen(3_000, 0, 99_999), 0);
            SightRows low = Roads.straight(0);
            low.box(1_500, 0, 1_500, 0, -49_945);
            checks.due("110 and - 100,000 give - 49,945", low.seen(3_000, 0, -100_000), 1);
            low.box(1_500, 0, 1_500, 0, -49_944);
            checks.due("which is below - 49,944", low.seen(3_000, 0, -100_000), 0);
        });
    }

    private static void light() {
        checks.test("17: the difference of ways to the last station, up to which", () -> {
            SightRows road = Roads.levels(0, 0, 101, 0, 0);
            checks.due("it ends before the first that is above", road.light(0, 100, 0), 1_000);
            checks.due("the next one is above", road.light(1, 100, 0), 0);
            checks.due("to the last", road.light(2, 0, 0), 2_000);
            checks.due("none beyond the last", road.light(4, 1_000, 100), 0);
            checks.due("one alone", Roads.straight(0).light(0, 0, 0), 0);
            checks.due("all 60", Roads.full().light(0, 0, 0), 29_500);
        });
        checks.test("17: no station's level is above the light's height there", () -> {
            checks.due("100 is not above 100", Roads.levels(0, 100).light(0, 100, 0), 1_000);
            checks.due("101 is above 100", Roads.levels(0, 101).light(0, 100, 0), 0);
            checks.due("- 50 is not above - 50", Roads.levels(-150, -50).light(0, 100, 0), 1_000);
            checks.due("- 49 is above - 50", Roads.levels(-150, -49).light(0, 100, 0), 0);
            checks.due("a road down", Roads.levels(100_000, -100_000).light(0, 0, 0), 1_000);
            checks.due("a road up", Roads.levels(-100_000, 100_000).light(0, 1_000, 100), 0);
        });
        checks.test("17: the rise times the difference of ways, by 100, cut off", () -> {
            checks.due("0.99 is 0", litUpTo(99, 1, 1), 0);
            checks.due("1 is 1", litUpTo(100, 1, 1), 100);
            checks.due("1.99 is 1", litUpTo(199, 2, 1), 0);
            checks.due("2.97 is 2", litUpTo(99, 3, 3), 0);
            checks.due("2.97 is 2, and 2 is not above", litUpTo(99, 2, 3), 99);
            SightRows below = new SightRows();
            below.station(0, 0, -10);
            below.station(199, 0, -8);
            checks.due("- 10 and 1.99 are - 9, not - 8", below.light(0, 0, 1), 0);
            below.station(200, 0, -8);
            checks.due("what is before it is cut off too", below.light(0, 1, 1), 200);
            SightRows high = new SightRows();
            for (int i = 0; i < 60; i++) {
                high.station(i % 2 == 0 ? -15_000 : 15_000, 0, i == 59 ? 100_000 : -100_000);
            }
            checks.due("the highest light, far above all", high.light(0, 1_000, 100), 59 * 30_000);
        });
        checks.test("17: rises by so many thousandths (0 .. 100)", () -> {
            ranges.asking("rise", Roads::sample, 0, 100, (road, rise) -> road.light(0, 50, rise) != BAD);
            ranges.asking("rise, the last", Roads::sample, 0, 100, (road, rise) -> road.light(5, 0, rise) != BAD);
            checks.due("0: 0 on 1,000", litUpTo(1_000, 1, 0), 0);
            checks.due("0: not above 0", litUpTo(1_000, 0, 0), 1_000);
            checks.due("100: 1,000 on 1,000", litUpTo(1_000, 1_000, 100), 1_000);
            checks.due("100: not 1,001", litUpTo(1_000, 1_001, 100), 0);
        });
        checks.test("17: BAD: none such", () ->
            ranges.askingStation("light", (road, station) -> road.light(station, 50, 3) != BAD));
        checks.test("17: BAD: the lamp is not 0 .. 1,000.", () -> {
            ranges.asking("lamp", Roads::sample, 0, 1_000, (road, lamp) -> road.light(0, lamp, 3) != BAD);
            ranges.asking("lamp, the last", Roads::sample, 0, 1_000, (road, lamp) -> road.light(5, lamp, 0) != BAD);
            checks.due("0 is at 0", Roads.levels(0, 0).light(0, 0, 0), 1_000);
            checks.due("0 is below 1", Roads.levels(0, 1).light(0, 0, 0), 0);
            checks.due("1,000 is at 1,000", Roads.levels(0, 1_000).light(0, 1_000, 0), 1_000);
            checks.due("1,000 is below 1,001", Roads.levels(0, 1_001).light(0, 1_000, 0), 0);
        });
    }

    /** How far a lamp on the road itself lights, with one more station so far and so high. */
    private static int litUpTo(int apart, int level, int rise) {
        SightRows road = Roads.straight(0);
        road.station(apart, 0, level);
        return road.light(0, 0, rise);
    }

    private static void count() {
        checks.test("18: 0 stations", () -> {
            SightRows road = new SightRows();
            for (int i = 0; i < 60; i++) {
                checks.due("as many as came", road.count(0), i);
                road.station(i, 0, 0);
            }
            checks.due("all there may be", road.count(0), 60);
            road.station(0, 0, 0);
            checks.due("and no more", road.count(0), 60);
        });
        checks.test("18: 1 boxes", () -> {
            SightRows road = new SightRows();
            for (int i = 0; i < 8; i++) {
                checks.due("as many as came", road.count(1), i);
                road.box(i, i, i, i, i);
            }
            checks.due("all there may be", road.count(1), 8);
            road.box(0, 0, 0, 0, 0);
            checks.due("and no more", road.count(1), 8);
        });
        checks.test("18: 2 clear widths that were told (each once)", () -> {
            SightRows road = Roads.full();
            for (int i = 0; i < 120; i++) {
                checks.due("as many as were told", road.count(2), i);
                road.clear(i / 2, i % 2, i);
            }
            checks.due("all there may be", road.count(2), 120);
            road.clear(0, LEFT, 0);
            road.clear(59, RIGHT, 1_000);
            checks.due("told once more", road.count(2), 120);
            SightRows same = Roads.straight(0);
            same.clear(0, LEFT, 0);
            same.clear(0, LEFT, 0);
            same.clear(0, LEFT, 1_000);
            checks.due("one, told thrice", same.count(2), 1);
            same.clear(0, RIGHT, 1_001);
            checks.due("a refused one is not told", same.count(2), 1);
        });
        checks.test("18: 3 free views from lesser numbers to greater ones", () -> {
            checks.due("no station", new SightRows().count(3), 0);
            checks.due("one alone", Roads.straight(0).count(3), 0);
            checks.due("two at one point", Roads.straight(0, 0).count(3), 1);
            checks.due("all of 60", Roads.full().count(3), 60 * 59 / 2);
            checks.due("none of 60", Roads.fullAndDark().count(3), 0);
            SightRows crest = Roads.straight(0);
            crest.station(100, 0, 80);
            crest.station(300, 0, 0);
            checks.due("on it is free", crest.view(0, 2, 0), 0);
            checks.due("back it is not", crest.view(2, 0, 0), 1);
            checks.due("on alone counts", crest.count(3), 3);
            crest.heights(20, 110);
            checks.due("back it is free, on it is not", crest.count(3), 2);
        });
        checks.test("18: 4 blind stations looking on", () -> {
            checks.due("none are there", new SightRows().count(4), 0);
            checks.due("none of 60", Roads.full().count(4), 0);
            checks.due("58 of 60", Roads.fullAndDark().count(4), 58);
            checks.due("30 of 60", combed(1).count(4), 30);
        });
        checks.test("18: 5 looking back", () -> {
            checks.due("none are there", new SightRows().count(5), 0);
            checks.due("none of 60", Roads.full().count(5), 0);
            checks.due("58 of 60", Roads.fullAndDark().count(5), 58);
            checks.due("30 of 60", combed(0).count(5), 30);
            SightRows one = Roads.fullAndDark();
            for (int i = 0; i < 60; i++) {
                one.speed(i, i == 59 ? 200 : 0);
            }
            checks.due("the last alone, back", one.count(5), 1);
            checks.due("and none on", one.count(4), 0);
        });
        checks.test("18: BAD: another number.", () -> {
            ranges.asking("what", Roads::sample, 0, 5, (road, what) -> road.count(what) != BAD);
            ranges.asking("what, none yet", SightRows::new, 0, 5, (road, what) -> road.count(what) != BAD);
        });
    }
}
