import java.math.BigInteger;
import java.util.ArrayList;
import java.util.List;

/**
 * The document once more, in its plainest words and by other means than the class: exact
 * fractions, and trying all there is to try. It answers rightly for rightful arguments alone.
 */
final class Oracle {
    record Station(int x, int y, int level, int way) { }

    record Box(int x0, int y0, int x1, int y1, int top) { }

    record Point(int x, int y, int height) { }

    /** A fraction above a whole that is more than 0. */
    record Fraction(BigInteger part, BigInteger whole) implements Comparable<Fraction> {
        static Fraction of(long part, long whole) {
            BigInteger sign = BigInteger.valueOf(whole < 0 ? -1 : 1);
            return new Fraction(BigInteger.valueOf(part).multiply(sign), BigInteger.valueOf(whole).multiply(sign));
        }

        static Fraction of(long number) {
            return of(number, 1);
        }

        Fraction plus(Fraction o) {
            return new Fraction(part.multiply(o.whole).add(o.part.multiply(whole)), whole.multiply(o.whole));
        }

        Fraction times(Fraction o) {
            return new Fraction(part.multiply(o.part), whole.multiply(o.whole));
        }

        /** The point at this part of the way from one number to another. */
        Fraction between(int from, int to) {
            return of(from).plus(times(of(to - from)));
        }

        boolean isWithin(int low, int high) {
            return compareTo(of(low)) >= 0 && compareTo(of(high)) <= 0;
        }

        @Override
        public int compareTo(Fraction o) {
            return part.multiply(o.whole).compareTo(o.part.multiply(whole));
        }
    }

    final List<Station> stations = new ArrayList<>();
    final List<Box> boxes = new ArrayList<>();
    final List<Integer> speeds = new ArrayList<>();
    final List<Integer[]> widths = new ArrayList<>();
    int eye = 110;
    int thing = 20;
    int react = 25;
    int brake = 450;

    int station(int x, int y, int level) {
        int way = 0;
        if (!stations.isEmpty()) {
            Station last = stations.get(stations.size() - 1);
            long square = (long) (x - last.x) * (x - last.x) + (long) (y - last.y) * (y - last.y);
            way = last.way + Math.max(1, BigInteger.valueOf(square).sqrt().intValueExact());
        }
        stations.add(new Station(x, y, level, way));
        speeds.add(50);
        widths.add(new Integer[2]);
        return stations.size() - 1;
    }

    int box(int x0, int y0, int x1, int y1, int top) {
        boxes.add(new Box(x0, y0, x1, y1, top));
        return boxes.size() - 1;
    }

    int[] interrupted(int from, int to) {
        int lesser = Math.min(from, to);
        int greater = Math.max(from, to);
        for (int i = lesser + 1; i < greater; i++) {
            if (byGround(from, to, i)) {
                return new int[] {1, i};
            }
        }
        for (int i = lesser + 1; i < greater; i++) {
            for (int side = 0; side < 2; side++) {
                Integer width = widths.get(i)[side];
                if (width != null && byBank(lesser, greater, i, side, width)) {
                    return new int[] {2, i};
                }
            }
        }
        Station a = stations.get(from);
        Station b = stations.get(to);
        Point seeing = new Point(a.x, a.y, a.level + eye);
        int box = firstBox(seeing, new Point(b.x, b.y, b.level + thing));
        return box < 0 ? new int[] {0, -1} : new int[] {3, box};
    }

    private boolean byGround(int from, int to, int at) {
        Station a = stations.get(from);
        Station b = stations.get(to);
        Station s = stations.get(at);
        Fraction t = Fraction.of(s.way - a.way, b.way - a.way);
        return Fraction.of(s.level).compareTo(t.between(a.level + eye, b.level + thing)) > 0;
    }

    /** By the foot of the perpendicular: how far it lies from the station, and on which hand. */
    private boolean byBank(int lesser, int greater, int at, int side, int width) {
        Station a = stations.get(lesser);
        Station b = stations.get(greater);
        Station s = stations.get(at);
        long dx = b.x - a.x;
        long dy = b.y - a.y;
        if (dx == 0 && dy == 0) {
            return false;
        }
        Fraction t = Fraction.of((s.x - a.x) * dx + (s.y - a.y) * dy, dx * dx + dy * dy);
        Fraction footX = Fraction.of(a.x - s.x).plus(t.times(Fraction.of(dx)));
        Fraction footY = Fraction.of(a.y - s.y).plus(t.times(Fraction.of(dy)));
        // The left hand of one who looks along (dx, dy) points along (-dy, dx).
        Fraction leftwards = footX.times(Fraction.of(-dy)).plus(footY.times(Fraction.of(dx)));
        int hand = leftwards.part.signum();
        Fraction square = footX.times(footX).plus(footY.times(footY));
        return hand == (side == 0 ? 1 : -1) && square.compareTo(Fraction.of((long) width * width)) > 0;
    }

    private int firstBox(Point a, Point b) {
        for (int i = 0; i < boxes.size(); i++) {
            if (byBox(a, b, boxes.get(i))) {
                return i;
            }
        }
        return -1;
    }

    /** What both have in common ends at an end of the view, or where it meets a border's line. */
    private boolean byBox(Point a, Point b, Box box) {
        List<Fraction> parts = new ArrayList<>();
        parts.add(Fraction.of(0));
        parts.add(Fraction.of(1));
        if (a.x != b.x) {
            parts.add(Fraction.of(box.x0 - a.x, b.x - a.x));
            parts.add(Fraction.of(box.x1 - a.x, b.x - a.x));
        }
        if (a.y != b.y) {
            parts.add(Fraction.of(box.y0 - a.y, b.y - a.y));
            parts.add(Fraction.of(box.y1 - a.y, b.y - a.y));
        }
        for (Fraction t : parts) {
            if (t.isWithin(0, 1) && t.between(a.x, b.x).isWithin(box.x0, box.x1)
                    && t.between(a.y, b.y).isWithin(box.y0, box.y1)
                    && t.between(a.height, b.height).compareTo(Fraction.of(box.top)) < 0) {
                return true;
            }
        }
        return false;
    }

    boolean free(int from, int to) {
        return interrupted(from, to)[0] == 0;
    }

    int apart(int from, int to) {
        return Math.abs(stations.get(from).way - stations.get(to).way);
    }

    int sight(int station, boolean back) {
        int best = 0;
        int end = back ? 0 : stations.size() - 1;
        int step = back ? -1 : 1;
        for (int i = station; i != end; i += step) {
            if (!free(station, i + step)) {
                break;
            }
            best = apart(station, i + step);
        }
        return best;
    }

    int need(int station, boolean back, int v) {
        int next = station + (back ? -1 : 1);
        BigInteger g = BigInteger.ZERO;
        if (next >= 0 && next < stations.size()) {
            int higher = stations.get(next).level - stations.get(station).level;
            g = BigInteger.valueOf(981).multiply(BigInteger.valueOf(higher))
                .divide(BigInteger.TEN.multiply(BigInteger.valueOf(apart(station, next))));
        }
        BigInteger slowing = g.add(BigInteger.valueOf(brake)).max(BigInteger.valueOf(20));
        BigInteger braking = BigInteger.valueOf(v * v).multiply(BigInteger.valueOf(100_000))
            .divide(BigInteger.valueOf(2_592).multiply(slowing));
        return v * react * 10 / 36 + braking.intValueExact();
    }

    int need(int station, boolean back) {
        return need(station, back, speeds.get(station));
    }

    int road(int station, boolean back) {
        return apart(station, back ? 0 : stations.size() - 1);
    }

    boolean isBlind(int station, boolean back) {
        int need = need(station, back);
        return sight(station, back) < need && road(station, back) >= need;
    }

    List<int[]> blind(boolean back) {
        List<int[]> stretches = new ArrayList<>();
        for (int i = 0; i < stations.size(); i++) {
            if (!isBlind(i, back)) {
                continue;
            }
            int[] last = stretches.isEmpty() ? null : stretches.get(stretches.size() - 1);
            if (last != null && last[1] == i - 1) {
                last[1] = i;
            } else {
                stretches.add(new int[] {i, i});
            }
        }
        return stretches;
    }

    int setBack(int station, int side) {
        int low = 0;
        int high = 1_001;
        while (low < high) {
            int width = (low + high) / 2;
            if (width == 1_001 || isEnough(station, side, width)) {
                high = width;
            } else {
                low = width + 1;
            }
        }
        return low == 1_001 ? -1 : low;
    }

    private boolean isEnough(int station, int side, int width) {
        for (int a = 0; a < station; a++) {
            for (int b = station + 1; b < stations.size(); b++) {
                if (apart(a, b) <= need(a, false) && byBank(a, b, station, side, width)) {
                    return false;
                }
            }
        }
        return true;
    }

    int allowed(int station, boolean back) {
        int best = 0;
        int sight = sight(station, back);
        for (int v = 5; v <= 130; v += 5) {
            int need = need(station, back, v);
            if (need <= sight || road(station, back) < need) {
                best = v;
            }
        }
        return best;
    }

    int overtake(int wanted) {
        int best = 0;
        int[] sights = new int[stations.size()];
        for (int i = 0; i < sights.length; i++) {
            sights[i] = sight(i, false);
        }
        for (int a = 0; a < stations.size(); a++) {
            for (int b = a; b < stations.size() && sights[b] >= wanted; b++) {
                best = Math.max(best, apart(a, b));
            }
        }
        return best;
    }

    int seen(int x, int y, int height) {
        int seeing = 0;
        for (Station s : stations) {
            long dx = s.x - x;
            long dy = s.y - y;
            boolean near = dx * dx + dy * dy <= 3_000L * 3_000;
            if (near && firstBox(new Point(s.x, s.y, s.level + eye), new Point(x, y, height)) < 0) {
                seeing++;
            }
        }
        return seeing;
    }

    int light(int station, int lamp, int rise) {
        int best = 0;
        for (int i = station; i < stations.size(); i++) {
            int height = stations.get(station).level + lamp + rise * apart(station, i) / 100;
            if (stations.get(i).level > height) {
                break;
            }
            best = apart(station, i);
        }
        return best;
    }

    int told() {
        int told = 0;
        for (Integer[] pair : widths) {
            told += (pair[0] == null ? 0 : 1) + (pair[1] == null ? 0 : 1);
        }
        return told;
    }

    int freeViews() {
        int found = 0;
        for (int a = 0; a < stations.size(); a++) {
            for (int b = a + 1; b < stations.size(); b++) {
                found += free(a, b) ? 1 : 0;
            }
        }
        return found;
    }

    int blindStations(boolean back) {
        int found = 0;
        for (int i = 0; i < stations.size(); i++) {
            found += isBlind(i, back) ? 1 : 0;
        }
        return found;
    }
}
