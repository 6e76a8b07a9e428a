import java.math.BigInteger;
import java.util.ArrayList;
import java.util.List;

/**
 * The document once more, told as plainly as it can be with numbers that have no end, so that long runs of
 * calls can be held against it. A call answers a number, or one of the three refusals.
 */
final class Model {
    static final long INDEX = Long.MIN_VALUE;
    static final long ARGUMENT = Long.MIN_VALUE + 1;
    static final long STATE = Long.MIN_VALUE + 2;

    /** A fraction of two numbers without an end, below above 0, lessened. */
    record Ratio(BigInteger above, BigInteger below) {
        static Ratio of(long above, long below) {
            return of(BigInteger.valueOf(above), BigInteger.valueOf(below));
        }

        static Ratio of(BigInteger above, BigInteger below) {
            BigInteger common = above.gcd(below);
            return new Ratio(above.divide(common), below.divide(common));
        }

        Ratio plus(Ratio o) {
            return of(above.multiply(o.below).add(o.above.multiply(below)), below.multiply(o.below));
        }

        Ratio times(Ratio o) {
            return of(above.multiply(o.above), below.multiply(o.below));
        }

        long down() {
            return above.divide(below).longValueExact();
        }

        long up() {
            return above.add(below).subtract(BigInteger.ONE).divide(below).longValueExact();
        }
    }

    record Corner(int height, int radius) {
    }

    static final class Pot {
        List<Corner> corners = new ArrayList<>();
        int wall;
        boolean cut;
        final List<Integer> sherds = new ArrayList<>();

        Corner last() {
            return corners.get(corners.size() - 1);
        }
    }

    private static final Ratio ZERO = Ratio.of(0, 1);

    final List<Pot> pots = new ArrayList<>();
    final List<Integer> bounds = new ArrayList<>();
    final List<int[]> places = new ArrayList<>();

    private Pot pot(int profile) {
        return profile >= 0 && profile < pots.size() ? pots.get(profile) : null;
    }

    private static boolean neither(int choice) {
        return choice < 0 || choice > 1;
    }

    long profile() {
        if (pots.size() == 6) {
            return STATE;
        }
        pots.add(new Pot());
        return pots.size() - 1;
    }

    long corner(int profile, int height, int radius) {
        Pot pot = pot(profile);
        if (pot == null) {
            return INDEX;
        }
        if (height < 0 || height > 400 || radius < 0 || radius > 200) {
            return ARGUMENT;
        }
        int n = pot.corners.size();
        if (n == 12 || pot.cut) {
            return STATE;
        }
        Corner corner = new Corner(height, radius);
        boolean can = n == 0 || pot.last().height <= height && !pot.last().equals(corner);
        if (n >= 2 && pot.last().height == height && pot.corners.get(n - 2).height == height) {
            can = false;
        }
        if (can) {
            pot.corners.add(corner);
        }
        return can ? 1 : 0;
    }

    long at(int profile, int k, int what) {
        Pot pot = pot(profile);
        if (pot == null || neither(what) || k < -1 || k >= pot.corners.size()) {
            return INDEX;
        }
        if (k == -1) {
            return pot.corners.size();
        }
        return what == 0 ? pot.corners.get(k).height : pot.corners.get(k).radius;
    }

    /** The greatest radius at a height of all pieces that reach it; null if none does. */
    private static Ratio exactRadius(List<Corner> corners, int height, int wall) {
        Ratio greatest = null;
        for (int k = 0; k < corners.size(); k++) {
            Corner b = corners.get(k);
            Corner a = k == 0 ? b : corners.get(k - 1);
            if (height < a.height || height > b.height) {
                continue;
            }
            Ratio there = a.height == b.height
                    ? Ratio.of(Math.max(less(a, wall), less(b, wall)), 1) : onLine(a, b, height, wall);
            if (greatest == null || there.plus(Ratio.of(-1, 1).times(greatest)).above.signum() > 0) {
                greatest = there;
            }
        }
        return greatest;
    }

    private static int less(Corner c, int wall) {
        return Math.max(0, c.radius - wall);
    }

    private static Ratio onLine(Corner a, Corner b, int height, int wall) {
        Ratio way = Ratio.of(height - a.height, b.height - a.height);
        return Ratio.of(less(a, wall), 1).plus(way.times(Ratio.of(less(b, wall) - less(a, wall), 1)));
    }

    long radius(int profile, int height) {
        Pot pot = pot(profile);
        if (pot == null) {
            return INDEX;
        }
        Ratio there = exactRadius(pot.corners, height, 0);
        return there == null ? -1 : there.down();
    }

    /** Summed height by height, unlike the class, which goes from corner to corner. */
    private static Ratio sum(List<Corner> corners, int wall, int from, int to) {
        Ratio sum = ZERO;
        for (int k = 1; k < corners.size(); k++) {
            Corner a = corners.get(k - 1);
            Corner b = corners.get(k);
            for (int y = Math.max(from, a.height); y < Math.min(to, b.height); y++) {
                Ratio r = onLine(a, b, y, wall);
                Ratio s = onLine(a, b, y + 1, wall);
                Ratio squares = r.times(r).plus(r.times(s)).plus(s.times(s));
                sum = sum.plus(squares.times(Ratio.of(1, 3)));
            }
        }
        return sum;
    }

    private static Ratio held(Pot pot, int height) {
        return pot.corners.isEmpty()
                ? ZERO : sum(pot.corners, pot.wall, pot.corners.get(0).height + pot.wall, height);
    }

    private static long part(Ratio ratio, int part) {
        return (part == 0 ? ratio.above : ratio.below).longValueExact();
    }

    long volume(int profile, int height, int part) {
        Pot pot = pot(profile);
        return pot == null || neither(part) ? INDEX : part(sum(pot.corners, 0, 0, height), part);
    }

    long holds(int profile, int height, int part) {
        Pot pot = pot(profile);
        return pot == null || neither(part) ? INDEX : part(held(pot, height), part);
    }

    long enclosed(int profile, int end) {
        Pot pot = pot(profile);
        if (pot == null || neither(end)) {
            return INDEX;
        }
        Ratio held = held(pot, 400);
        return end == 0
                ? held.times(Ratio.of(314159265, 100000000)).down() : held.times(Ratio.of(314159266, 100000000)).up();
    }

    long wall(int profile, int thickness) {
        Pot pot = pot(profile);
        if (pot == null) {
            return INDEX;
        }
        if (thickness < 0 || thickness > 50) {
            return ARGUMENT;
        }
        int before = pot.wall;
        pot.wall = thickness;
        return before;
    }

    long unlike(int a, int b) {
        if (pot(a) == null || pot(b) == null) {
            return INDEX;
        }
        long sum = 0;
        for (int height = 0; height <= 400; height++) {
            sum += Math.abs(Math.max(0, radius(a, height)) - Math.max(0, radius(b, height)));
        }
        return sum;
    }

    long cut(int profile, int height) {
        Pot pot = pot(profile);
        if (pot == null) {
            return INDEX;
        }
        if (pot.cut || pot.corners.isEmpty() || height <= pot.corners.get(0).height || height >= pot.last().height) {
            return 0;
        }
        Corner end = new Corner(height, (int) radius(profile, height));
        pot.corners.removeIf(c -> c.height > height);
        if (pot.last().height != height) {
            pot.corners.add(end);
        }
        pot.cut = true;
        return 1;
    }

    long drawn(int profile, int k, int what) {
        Pot pot = pot(profile);
        if (pot == null || neither(what)) {
            return INDEX;
        }
        List<Corner> points = new ArrayList<>();
        for (Corner c : pot.corners) {
            points.add(0, new Corner(c.height, -c.radius));
        }
        for (Corner c : pot.corners) {
            if (c.radius != 0) {
                points.add(c);
            }
        }
        if (k < -1 || k >= points.size()) {
            return INDEX;
        }
        if (k == -1) {
            return points.size();
        }
        return what == 0 ? points.get(k).radius : points.get(k).height;
    }

    long bound(int v) {
        if (v < 0 || v > 1000000000) {
            return ARGUMENT;
        }
        if (bounds.size() == 10) {
            return STATE;
        }
        bounds.add(v);
        return bounds.size();
    }

    long size(int profile) {
        long held = enclosed(profile, 0);
        return held == INDEX ? INDEX : bounds.stream().filter(v -> v <= held).count();
    }

    long rim(int x, int y) {
        if (x < -200 || x > 200 || y < -200 || y > 200) {
            return ARGUMENT;
        }
        if (places.size() == 20) {
            return STATE;
        }
        places.add(new int[] {x, y});
        return places.size();
    }

    long clear() {
        int before = places.size();
        places.clear();
        return before;
    }

    /** By the circle's middle, unlike the class, which goes by the sides of the triangle. */
    private Ratio squareOfRadius() {
        int[] a = places.get(0);
        int[] b = places.get(places.size() / 2);
        int[] c = places.get(places.size() - 1);
        long bx = b[0] - a[0];
        long by = b[1] - a[1];
        long cx = c[0] - a[0];
        long cy = c[1] - a[1];
        long d = 2 * (bx * cy - by * cx);
        if (d == 0) {
            return ZERO;
        }
        long bb = bx * bx + by * by;
        long cc = cx * cx + cy * cy;
        BigInteger below = BigInteger.valueOf(d).multiply(BigInteger.valueOf(d));
        Ratio x = Ratio.of(BigInteger.valueOf(cy * bb - by * cc).pow(2), below);
        Ratio y = Ratio.of(BigInteger.valueOf(bx * cc - cx * bb).pow(2), below);
        return x.plus(y);
    }

    long circle(int part) {
        if (neither(part)) {
            return INDEX;
        }
        return places.size() < 3 ? STATE : part(squareOfRadius(), part);
    }

    long curve() {
        return places.size() < 3 ? STATE : BigInteger.valueOf(squareOfRadius().down()).sqrt().longValueExact();
    }

    long sherd(int profile, int thousandths) {
        Pot pot = pot(profile);
        if (pot == null) {
            return INDEX;
        }
        if (thousandths < 1 || thousandths > 1000) {
            return ARGUMENT;
        }
        if (count(3) == 60) {
            return STATE;
        }
        pot.sherds.add(thousandths);
        return pot.sherds.stream().mapToInt(s -> s).sum();
    }

    long vessels(int profile, int how) {
        Pot pot = pot(profile);
        if (pot == null || neither(how)) {
            return INDEX;
        }
        if (how == 0) {
            int all = pot.sherds.stream().mapToInt(s -> s).sum();
            return all / 1000 + (all % 1000 == 0 ? 0 : 1);
        }
        List<Integer> rooms = new ArrayList<>();
        for (int sherd : pot.sherds) {
            int v = 0;
            while (v < rooms.size() && rooms.get(v) < sherd) {
                v++;
            }
            if (v == rooms.size()) {
                rooms.add(1000);
            }
            rooms.set(v, rooms.get(v) - sherd);
        }
        return rooms.size();
    }

    long count(int what) {
        switch (what) {
            case 0: return pots.size();
            case 1: return bounds.size();
            case 2: return places.size();
            case 3: return pots.stream().mapToInt(p -> p.sherds.size()).sum();
            default: return INDEX;
        }
    }
}
