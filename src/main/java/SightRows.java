/**
 * Sight along a road by its stations. Every comparison is made in whole numbers (squares and
 * products instead of roots and quotients), so that no answer hangs on rounding.
 */
public final class SightRows {
    public static final int BAD = -1;

    private static final int MOST_STATIONS = 60;
    private static final int MOST_BOXES = 8;
    private static final int PLANE_BOUND = 15_000;
    private static final int LEVEL_BOUND = 100_000;
    private static final int MOST_HEIGHT = 1_000;
    private static final int MOST_WIDTH = 1_000;
    private static final int MOST_SPEED = 200;
    private static final int MOST_REACT = 100;
    private static final int LEAST_BRAKE = 50;
    private static final int MOST_BRAKE = 1_000;
    private static final int LEAST_SLOWING = 20;
    private static final int SPEED_STEP = 5;
    private static final int MOST_ALLOWED = 130;
    private static final int MOST_WANTED = 1_000_000;
    private static final int SIGN_RANGE = 3_000;
    private static final int MOST_LAMP = 1_000;
    private static final int MOST_RISE = 100;
    private static final int HIGHEST_ROOT_BIT = 15;

    private static final int LEFT = 0;
    private static final int RIGHT = 1;
    private static final int SIDES = 2;
    private static final int UNTOLD = -1;

    private static final int NOTHING = 0;
    private static final int GROUND = 1;
    private static final int BANK = 2;
    private static final int BOX = 3;
    /** An interruption is held as its kind times this, and the number of its station or box. */
    private static final int KIND_STEP = 64;

    private final int[] xs = new int[MOST_STATIONS];
    private final int[] ys = new int[MOST_STATIONS];
    private final int[] levels = new int[MOST_STATIONS];
    private final int[] ways = new int[MOST_STATIONS];
    private final int[] speeds = new int[MOST_STATIONS];
    private final int[] widths = new int[SIDES * MOST_STATIONS];
    private final Boxes boxes = new Boxes();
    private int stationCount;
    private int toldWidths;
    private int eyeHeight = 110;
    private int thingHeight = 20;
    private int reactTenths = 25;
    private int brakeRate = 450;

    public SightRows() {
    }

    public int station(int x, int y, int level) {
        if (!isInPlane(x, y) || !isLevel(level) || stationCount >= MOST_STATIONS) {
            return BAD;
        }
        int added = stationCount;
        xs[added] = x;
        ys[added] = y;
        levels[added] = level;
        speeds[added] = 50;
        widths[SIDES * added + LEFT] = UNTOLD;
        widths[SIDES * added + RIGHT] = UNTOLD;
        ways[added] = added == 0 ? 0 : ways[added - 1] + stepBetween(added - 1, added);
        stationCount++;
        return added;
    }

    public boolean heights(int eye, int thing) {
        if (!isWithin(eye, 0, MOST_HEIGHT) || !isWithin(thing, 0, MOST_HEIGHT)) {
            return false;
        }
        eyeHeight = eye;
        thingHeight = thing;
        return true;
    }

    public boolean clear(int station, int side, int width) {
        if (!isStation(station) || !isSide(side) || !isWithin(width, 0, MOST_WIDTH)) {
            return false;
        }
        int place = SIDES * station + side;
        if (widths[place] == UNTOLD) {
            toldWidths++;
        }
        widths[place] = width;
        return true;
    }

    public int box(int x0, int y0, int x1, int y1, int top) {
        if (!isInPlane(x0, y0) || !isInPlane(x1, y1) || x0 > x1 || y0 > y1 || !isLevel(top)) {
            return BAD;
        }
        return boxes.add(x0, y0, x1, y1, top);
    }

    public boolean speed(int station, int v) {
        if (!isStation(station) || !isWithin(v, 0, MOST_SPEED)) {
            return false;
        }
        speeds[station] = v;
        return true;
    }

    public boolean brake(int react, int brake) {
        if (!isWithin(react, 0, MOST_REACT) || !isWithin(brake, LEAST_BRAKE, MOST_BRAKE)) {
            return false;
        }
        reactTenths = react;
        brakeRate = brake;
        return true;
    }

    public int way(int station) {
        return isStation(station) ? ways[station] : BAD;
    }

    public int view(int from, int to, int what) {
        if (!isStation(from) || !isStation(to) || from == to || !isWithin(what, 0, 1)) {
            return BAD;
        }
        int found = interruption(from, to);
        if (what == 0) {
            return found / KIND_STEP;
        }
        return found == NOTHING ? BAD : found % KIND_STEP;
    }

    public int sight(int station, boolean back) {
        return isStation(station) ? sightFrom(station, back) : BAD;
    }

    public int need(int station, boolean back) {
        return isStation(station) ? needWith(station, back, speeds[station]) : BAD;
    }

    public int blind(boolean back, int k, int what) {
        if (k < 0 || !isWithin(what, 0, 1)) {
            return BAD;
        }
        int passed = 0;
        int first = BAD;
        // One step past the last station, so that a stretch that ends there is closed too.
        for (int i = 0; i <= stationCount; i++) {
            boolean sightless = i < stationCount && isBlind(i, back);
            if (sightless && first == BAD) {
                first = i;
            }
            if (!sightless && first != BAD) {
                if (passed == k) {
                    return what == 0 ? first : i - 1;
                }
                passed++;
                first = BAD;
            }
        }
        return BAD;
    }

    public int setBack(int station, int side) {
        if (!isStation(station) || !isSide(side)) {
            return BAD;
        }
        int width = 0;
        for (int from = 0; from < station; from++) {
            int reach = ways[from] + needWith(from, false, speeds[from]);
            for (int to = station + 1; to < stationCount && ways[to] <= reach; to++) {
                width = widened(width, from, to, station, side);
            }
        }
        return width > MOST_WIDTH ? BAD : width;
    }

    public int allowed(int station, boolean back) {
        if (!isStation(station)) {
            return BAD;
        }
        int seeing = sightFrom(station, back);
        int road = roadBeyond(station, back);
        for (int v = MOST_ALLOWED; v > 0; v -= SPEED_STEP) {
            int needed = needWith(station, back, v);
            if (needed <= seeing || road < needed) {
                return v;
            }
        }
        return 0;
    }

    public int overtake(int wanted) {
        if (!isWithin(wanted, 1, MOST_WANTED)) {
            return BAD;
        }
        int longest = 0;
        int first = BAD;
        for (int i = 0; i < stationCount; i++) {
            if (sightFrom(i, false) < wanted) {
                first = BAD;
            } else {
                first = first == BAD ? i : first;
                longest = Math.max(longest, ways[i] - ways[first]);
            }
        }
        return longest;
    }

    public int seen(int x, int y, int height) {
        if (!isInPlane(x, y) || !isLevel(height)) {
            return BAD;
        }
        int seeing = 0;
        for (int i = 0; i < stationCount; i++) {
            boolean near = squareOf(x - xs[i], y - ys[i]) <= (long) SIGN_RANGE * SIGN_RANGE;
            if (near && boxes.firstAcross(xs[i], ys[i], levels[i] + eyeHeight, x, y, height) == BAD) {
                seeing++;
            }
        }
        return seeing;
    }

    public int light(int station, int lamp, int rise) {
        if (!isStation(station) || !isWithin(lamp, 0, MOST_LAMP) || !isWithin(rise, 0, MOST_RISE)) {
            return BAD;
        }
        int lit = 0;
        for (int i = station + 1; i < stationCount; i++) {
            int apart = ways[i] - ways[station];
            long height = levels[station] + lamp + (long) rise * apart / 100;
            if (levels[i] > height) {
                return lit;
            }
            lit = apart;
        }
        return lit;
    }

    public int count(int what) {
        switch (what) {
            case 0:
                return stationCount;
            case 1:
                return boxes.size;
            case 2:
                return toldWidths;
            case 3:
                return freeViews();
            case 4:
                return blindStations(false);
            case 5:
                return blindStations(true);
            default:
                return BAD;
        }
    }

    private static boolean isWithin(int value, int least, int most) {
        return value >= least && value <= most;
    }

    private static boolean isInPlane(int x, int y) {
        return isWithin(x, -PLANE_BOUND, PLANE_BOUND) && isWithin(y, -PLANE_BOUND, PLANE_BOUND);
    }

    private static boolean isLevel(int level) {
        return isWithin(level, -LEVEL_BOUND, LEVEL_BOUND);
    }

    private static boolean isSide(int side) {
        return side == LEFT || side == RIGHT;
    }

    private boolean isStation(int station) {
        return station >= 0 && station < stationCount;
    }

    private static long squareOf(long dx, long dy) {
        return dx * dx + dy * dy;
    }

    private long squareBetween(int from, int to) {
        return squareOf(xs[to] - xs[from], ys[to] - ys[from]);
    }

    private int stepBetween(int from, int to) {
        return Math.max(1, rootOf(squareBetween(from, to)));
    }

    /** The root, cut off; no distance in the plane is as much as 2 to the 16th decimetres. */
    private static int rootOf(long square) {
        int root = 0;
        for (int bit = HIGHEST_ROOT_BIT; bit >= 0; bit--) {
            long tried = root + (1 << bit);
            if (tried * tried <= square) {
                root = (int) tried;
            }
        }
        return root;
    }

    private int interruption(int from, int to) {
        int lesser = Math.min(from, to);
        int greater = Math.max(from, to);
        for (int i = lesser + 1; i < greater; i++) {
            if (isGroundAbove(from, to, i)) {
                return GROUND * KIND_STEP + i;
            }
        }
        for (int i = lesser + 1; i < greater; i++) {
            if (isBankInWay(lesser, greater, i)) {
                return BANK * KIND_STEP + i;
            }
        }
        int box = boxes.firstAcross(xs[from], ys[from], levels[from] + eyeHeight,
                xs[to], ys[to], levels[to] + thingHeight);
        return box == BAD ? NOTHING : BOX * KIND_STEP + box;
    }

    private boolean isGroundAbove(int from, int to, int at) {
        long whole = Math.abs(ways[to] - ways[from]);
        long part = Math.abs(ways[at] - ways[from]);
        long height = (whole - part) * (levels[from] + eyeHeight) + part * (levels[to] + thingHeight);
        return whole * levels[at] > height;
    }

    private boolean isBankInWay(int lesser, int greater, int at) {
        long cross = crossAt(lesser, greater, at);
        if (cross == 0) {
            return false;
        }
        int width = widths[SIDES * at + sideOf(cross)];
        return width != UNTOLD && isFarther(cross, squareBetween(lesser, greater), width);
    }

    /** Above 0 where the station lies left of the line; by the line's length it is the distance. */
    private long crossAt(int lesser, int greater, int at) {
        long dx = xs[greater] - xs[lesser];
        long dy = ys[greater] - ys[lesser];
        return dx * (ys[at] - ys[lesser]) - dy * (xs[at] - xs[lesser]);
    }

    /** The line goes past on the side on which the station does not lie, seen from the line. */
    private static int sideOf(long cross) {
        return cross < 0 ? LEFT : RIGHT;
    }

    /** With both ends at one point cross is 0 too, and nothing is farther than any width. */
    private static boolean isFarther(long cross, long lengthSquare, long width) {
        return cross * cross > width * width * lengthSquare;
    }

    private int widened(int width, int from, int to, int station, int side) {
        long cross = crossAt(from, to, station);
        if (cross == 0 || sideOf(cross) != side) {
            return width;
        }
        long lengthSquare = squareBetween(from, to);
        int wide = width;
        while (wide <= MOST_WIDTH && isFarther(cross, lengthSquare, wide)) {
            wide++;
        }
        return wide;
    }

    private int sightFrom(int station, boolean back) {
        int step = back ? -1 : 1;
        int reached = station;
        for (int to = station + step; to >= 0 && to < stationCount; to += step) {
            if (interruption(station, to) != NOTHING) {
                break;
            }
            reached = to;
        }
        return Math.abs(ways[reached] - ways[station]);
    }

    private int needWith(int station, boolean back, int v) {
        long reacting = (long) v * reactTenths * 10 / 36;
        long slowing = Math.max(LEAST_SLOWING, brakeRate + slopeBeyond(station, back));
        return (int) (reacting + (long) v * v * 100_000 / (2_592 * slowing));
    }

    private long slopeBeyond(int station, boolean back) {
        int next = back ? station - 1 : station + 1;
        if (!isStation(next)) {
            return 0;
        }
        long apart = Math.abs(ways[next] - ways[station]);
        // Ways grow by 1 at least; the divisor is looked at all the same.
        return apart == 0 ? 0 : 981L * (levels[next] - levels[station]) / (10 * apart);
    }

    private int roadBeyond(int station, boolean back) {
        return back ? ways[station] : ways[stationCount - 1] - ways[station];
    }

    private boolean isBlind(int station, boolean back) {
        int needed = needWith(station, back, speeds[station]);
        return roadBeyond(station, back) >= needed && sightFrom(station, back) < needed;
    }

    private int blindStations(boolean back) {
        int found = 0;
        for (int i = 0; i < stationCount; i++) {
            if (isBlind(i, back)) {
                found++;
            }
        }
        return found;
    }

    private int freeViews() {
        int found = 0;
        for (int from = 0; from < stationCount; from++) {
            for (int to = from + 1; to < stationCount; to++) {
                if (interruption(from, to) == NOTHING) {
                    found++;
                }
            }
        }
        return found;
    }

    /**
     * The boxes, and the part of a view that lies over one of them: from enterPart / enterWhole
     * to leavePart / leaveWhole of it. That part is held here and used again for each box, so
     * that a view makes no object.
     */
    private static final class Boxes {
        private final int[] westEdges = new int[MOST_BOXES];
        private final int[] southEdges = new int[MOST_BOXES];
        private final int[] eastEdges = new int[MOST_BOXES];
        private final int[] northEdges = new int[MOST_BOXES];
        private final int[] tops = new int[MOST_BOXES];
        private int size;
        private long enterPart;
        private long enterWhole;
        private long leavePart;
        private long leaveWhole;

        private int add(int x0, int y0, int x1, int y1, int top) {
            if (size >= MOST_BOXES) {
                return BAD;
            }
            int added = size;
            westEdges[added] = x0;
            southEdges[added] = y0;
            eastEdges[added] = x1;
            northEdges[added] = y1;
            tops[added] = top;
            size++;
            return added;
        }

        /** The box of the least number that interrupts the view from a to b; BAD if none does. */
        private int firstAcross(int ax, int ay, int aHeight, int bx, int by, int bHeight) {
            for (int i = 0; i < size; i++) {
                takeWhole();
                boolean over = narrow(ax, bx - ax, westEdges[i], eastEdges[i])
                        && narrow(ay, by - ay, southEdges[i], northEdges[i]);
                if (over && dipsBelow(tops[i], aHeight, bHeight)) {
                    return i;
                }
            }
            return BAD;
        }

        private void takeWhole() {
            enterPart = 0;
            enterWhole = 1;
            leavePart = 1;
            leaveWhole = 1;
        }

        /** Keeps what lies between two edges along one axis; false if that is nothing. */
        private boolean narrow(int start, int run, int low, int high) {
            if (run == 0) {
                return low <= start && start <= high;
            }
            long whole = Math.abs(run);
            long enter = run > 0 ? low - start : start - high;
            long leave = run > 0 ? high - start : start - low;
            if (enter * enterWhole > enterPart * whole) {
                enterPart = enter;
                enterWhole = whole;
            }
            if (leave * leaveWhole < leavePart * whole) {
                leavePart = leave;
                leaveWhole = whole;
            }
            return enterPart * leaveWhole <= leavePart * enterWhole;
        }

        /** A view is straight: over a stretch of it, it is lowest at one of the stretch's ends. */
        private boolean dipsBelow(long top, long aHeight, long bHeight) {
            long entering = (enterWhole - enterPart) * aHeight + enterPart * bHeight;
            long leaving = (leaveWhole - leavePart) * aHeight + leavePart * bHeight;
            return entering < top * enterWhole || leaving < top * leaveWhole;
        }
    }
}
