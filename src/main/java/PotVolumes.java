/**
 * Pots from half profiles that are turned: their volumes, what they hold, how they compare,
 * and the rims and sherds that tell of them.
 */
public final class PotVolumes {
    public static final int NONE = -1;

    private static final int HOW_MANY = -1;
    private static final int MOST_PROFILES = 6;
    private static final int MOST_CORNERS = 12;
    private static final int MOST_HEIGHT = 400;
    private static final int MOST_RADIUS = 200;
    private static final int MOST_WALL = 50;
    private static final int MOST_BOUNDS = 10;
    private static final int MOST_BOUND = 1000000000;
    private static final int MOST_PLACES = 20;
    private static final int FARTHEST_PLACE = 200;
    private static final int LEAST_PLACES_OF_CIRCLE = 3;
    private static final int MOST_SHERDS = 60;
    private static final int WHOLE_RIM = 1000;

    // The circle number from below and from above, both in parts of CIRCLE_UNIT.
    private static final long CIRCLE_LOW = 314159265L;
    private static final long CIRCLE_HIGH = 314159266L;
    private static final long CIRCLE_UNIT = 100000000L;

    // Euclid's steps on two longs are fewer than 92.
    private static final int MOST_DIVISOR_STEPS = 100;
    // No circle through three places has a radius of 2^27: sides are below 566, so it is below 566^3 / 2.
    private static final int HIGHEST_ROOT_BIT = 26;

    private final Profile[] profiles = new Profile[MOST_PROFILES];
    private int profileCount;
    private final int[] bounds = new int[MOST_BOUNDS];
    private int boundCount;
    private final int[] placesAcross = new int[MOST_PLACES];
    private final int[] placesAlong = new int[MOST_PLACES];
    private int placeCount;
    private final int[] sherdProfiles = new int[MOST_SHERDS];
    private final int[] sherdShares = new int[MOST_SHERDS];
    private int sherdCount;
    // The two below are worked in by single calls and made once, so that calls make no objects.
    private final int[] vesselShares = new int[MOST_SHERDS];
    private final Fraction fraction = new Fraction();

    public PotVolumes() {
    }

    public int profile() throws IllegalStateException {
        if (profileCount >= MOST_PROFILES) {
            throw new IllegalStateException("there are six profiles");
        }
        profiles[profileCount] = new Profile();
        profileCount++;
        return profileCount - 1;
    }

    public boolean corner(int profile, int height, int radius)
            throws IndexOutOfBoundsException, IllegalArgumentException, IllegalStateException {
        Profile found = profileOf(profile);
        if (height < 0 || height > MOST_HEIGHT) {
            throw new IllegalArgumentException("the height is not 0 .. 400");
        }
        if (radius < 0 || radius > MOST_RADIUS) {
            throw new IllegalArgumentException("the radius is not 0 .. 200");
        }
        if (found.isClosed()) {
            throw new IllegalStateException("the profile has twelve corners or was cut");
        }
        return found.addCorner(height, radius);
    }

    public int at(int profile, int k, int what) throws IndexOutOfBoundsException {
        Profile found = profileOf(profile);
        needOneOfTwo(what);
        if (k == HOW_MANY) {
            return found.cornerCount;
        }
        if (k < 0 || k >= found.cornerCount) {
            throw new IndexOutOfBoundsException("there is no such corner");
        }
        return what == 0 ? found.heights[k] : found.radiuses[k];
    }

    public int radius(int profile, int height) throws IndexOutOfBoundsException {
        return profileOf(profile).radiusAt(height);
    }

    public long volume(int profile, int height, int part) throws IndexOutOfBoundsException {
        Profile found = profileOf(profile);
        needOneOfTwo(part);
        found.measure(fraction, height);
        return fraction.tell(part);
    }

    public long holds(int profile, int height, int part) throws IndexOutOfBoundsException {
        Profile found = profileOf(profile);
        needOneOfTwo(part);
        found.measureHeld(fraction, height);
        return fraction.tell(part);
    }

    public long enclosed(int profile, int end) throws IndexOutOfBoundsException {
        Profile found = profileOf(profile);
        needOneOfTwo(end);
        found.measureHeld(fraction, MOST_HEIGHT);
        return end == 0 ? fraction.circledDown() : fraction.circledUp();
    }

    public int wall(int profile, int thickness) throws IndexOutOfBoundsException, IllegalArgumentException {
        Profile found = profileOf(profile);
        if (thickness < 0 || thickness > MOST_WALL) {
            throw new IllegalArgumentException("the wall is not 0 .. 50");
        }
        int before = found.thickness;
        found.thickness = thickness;
        return before;
    }

    public int unlike(int a, int b) throws IndexOutOfBoundsException {
        Profile one = profileOf(a);
        Profile other = profileOf(b);
        int sum = 0;
        for (int height = 0; height <= MOST_HEIGHT; height++) {
            int difference = one.radiusOrZero(height) - other.radiusOrZero(height);
            sum += Math.abs(difference);
        }
        return sum;
    }

    public boolean cut(int profile, int height) throws IndexOutOfBoundsException {
        return profileOf(profile).cutAt(height);
    }

    public int drawn(int profile, int k, int what) throws IndexOutOfBoundsException {
        Profile found = profileOf(profile);
        needOneOfTwo(what);
        if (k == HOW_MANY) {
            return found.cornerCount + found.countOffAxis();
        }
        if (k < 0) {
            throw new IndexOutOfBoundsException("there is no such point");
        }
        boolean mirrored = k < found.cornerCount;
        int corner = mirrored ? found.cornerCount - 1 - k : found.findOffAxis(k - found.cornerCount);
        if (corner < 0 || corner >= found.cornerCount) {
            throw new IndexOutOfBoundsException("there is no such point");
        }
        if (what == 1) {
            return found.heights[corner];
        }
        return mirrored ? -found.radiuses[corner] : found.radiuses[corner];
    }

    public int bound(int v) throws IllegalArgumentException, IllegalStateException {
        if (v < 0 || v > MOST_BOUND) {
            throw new IllegalArgumentException("the bound is not 0 .. 1000000000");
        }
        if (boundCount >= MOST_BOUNDS) {
            throw new IllegalStateException("there are ten bounds");
        }
        bounds[boundCount] = v;
        boundCount++;
        return boundCount;
    }

    public int size(int profile) throws IndexOutOfBoundsException {
        profileOf(profile).measureHeld(fraction, MOST_HEIGHT);
        // A volume is rounded down in one way alone in the document: as the lower end that encloses it.
        long held = fraction.circledDown();
        int notAbove = 0;
        for (int i = 0; i < boundCount; i++) {
            if (bounds[i] <= held) {
                notAbove++;
            }
        }
        return notAbove;
    }

    public int rim(int x, int y) throws IllegalArgumentException, IllegalStateException {
        if (x < -FARTHEST_PLACE || x > FARTHEST_PLACE || y < -FARTHEST_PLACE || y > FARTHEST_PLACE) {
            throw new IllegalArgumentException("the place is not within -200 .. 200");
        }
        if (placeCount >= MOST_PLACES) {
            throw new IllegalStateException("there are 20 places");
        }
        placesAcross[placeCount] = x;
        placesAlong[placeCount] = y;
        placeCount++;
        return placeCount;
    }

    public int clear() {
        int before = placeCount;
        placeCount = 0;
        return before;
    }

    public long circle(int part) throws IndexOutOfBoundsException, IllegalStateException {
        needOneOfTwo(part);
        needCircle();
        measureCircle();
        return fraction.tell(part);
    }

    public int curve() throws IllegalStateException {
        needCircle();
        measureCircle();
        return rootDown(fraction.roundedDown());
    }

    public int sherd(int profile, int thousandths)
            throws IndexOutOfBoundsException, IllegalArgumentException, IllegalStateException {
        needProfile(profile);
        if (thousandths < 1 || thousandths > WHOLE_RIM) {
            throw new IllegalArgumentException("the share is not 1 .. 1000");
        }
        if (sherdCount >= MOST_SHERDS) {
            throw new IllegalStateException("there are 60 sherds");
        }
        sherdProfiles[sherdCount] = profile;
        sherdShares[sherdCount] = thousandths;
        sherdCount++;
        return sumOfShares(profile);
    }

    public int vessels(int profile, int how) throws IndexOutOfBoundsException {
        needProfile(profile);
        needOneOfTwo(how);
        if (how == 0) {
            return (sumOfShares(profile) + WHOLE_RIM - 1) / WHOLE_RIM;
        }
        return vesselsBySherds(profile);
    }

    public int count(int what) throws IndexOutOfBoundsException {
        switch (what) {
            case 0:
                return profileCount;
            case 1:
                return boundCount;
            case 2:
                return placeCount;
            case 3:
                return sherdCount;
            default:
                throw new IndexOutOfBoundsException("there is no such class");
        }
    }

    private Profile profileOf(int number) {
        if (number < 0 || number >= profiles.length) {
            throw new IndexOutOfBoundsException("there is no such profile");
        }
        Profile found = profiles[number];
        if (found == null) {
            throw new IndexOutOfBoundsException("there is no such profile");
        }
        return found;
    }

    private void needProfile(int number) {
        if (number < 0 || number >= profileCount) {
            throw new IndexOutOfBoundsException("there is no such profile");
        }
    }

    private static void needOneOfTwo(int choice) {
        if (choice != 0 && choice != 1) {
            throw new IndexOutOfBoundsException("it is neither 0 nor 1");
        }
    }

    private void needCircle() {
        if (placeCount < LEAST_PLACES_OF_CIRCLE) {
            throw new IllegalStateException("there are less than three places");
        }
    }

    /** The circle's radius is a b c / (2 |cross|), cross being twice the area of the triangle. */
    private void measureCircle() {
        int middle = placeCount / 2;
        int last = placeCount - 1;
        fraction.clearToZero();
        if (middle >= last || last >= MOST_PLACES) {
            return;
        }
        long middleAcross = placesAcross[middle] - placesAcross[0];
        long middleAlong = placesAlong[middle] - placesAlong[0];
        long lastAcross = placesAcross[last] - placesAcross[0];
        long lastAlong = placesAlong[last] - placesAlong[0];
        long cross = middleAcross * lastAlong - middleAlong * lastAcross;
        if (cross == 0) {
            return;
        }
        // Squares of sides are at most 320000, so that the product of three fits a long.
        long sides = squareOfLength(middleAcross, middleAlong)
                * squareOfLength(lastAcross, lastAlong)
                * squareOfLength(lastAcross - middleAcross, lastAlong - middleAlong);
        fraction.add(sides, 4 * cross * cross);
    }

    private static long squareOfLength(long across, long along) {
        return across * across + along * along;
    }

    private static int rootDown(long square) {
        int root = 0;
        for (int bit = HIGHEST_ROOT_BIT; bit >= 0; bit--) {
            long tried = root | (1 << bit);
            if (tried * tried <= square) {
                root = (int) tried;
            }
        }
        return root;
    }

    private int sumOfShares(int profile) {
        int sum = 0;
        for (int i = 0; i < sherdCount; i++) {
            if (sherdProfiles[i] == profile) {
                sum += sherdShares[i];
            }
        }
        return sum;
    }

    private int vesselsBySherds(int profile) {
        int vesselCount = 0;
        for (int i = 0; i < sherdCount; i++) {
            if (sherdProfiles[i] != profile) {
                continue;
            }
            int vessel = firstWithRoom(vesselCount, sherdShares[i]);
            if (vessel == vesselCount) {
                vesselShares[vessel] = 0;
                vesselCount++;
            }
            vesselShares[vessel] += sherdShares[i];
        }
        return vesselCount;
    }

    /** The first of the vessels in which a share has room; their number itself if none has. */
    private int firstWithRoom(int vesselCount, int share) {
        for (int vessel = 0; vessel < vesselCount; vessel++) {
            if (vesselShares[vessel] + share <= WHOLE_RIM) {
                return vessel;
            }
        }
        return vesselCount;
    }

    /** A row of corners from below, with the wall of its pot. */
    private static final class Profile {
        final int[] heights = new int[MOST_CORNERS];
        final int[] radiuses = new int[MOST_CORNERS];
        int cornerCount;
        int thickness;
        boolean wasCut;

        boolean isClosed() {
            return wasCut || cornerCount >= MOST_CORNERS;
        }

        boolean addCorner(int height, int radius) {
            if (isClosed() || !canFollow(height, radius)) {
                return false;
            }
            heights[cornerCount] = height;
            radiuses[cornerCount] = radius;
            cornerCount++;
            return true;
        }

        private boolean canFollow(int height, int radius) {
            if (cornerCount == 0) {
                return true;
            }
            int last = cornerCount - 1;
            if (height != heights[last]) {
                return height > heights[last];
            }
            boolean third = last > 0 && heights[last - 1] == height;
            return !third && radius != radiuses[last];
        }

        int radiusAt(int height) {
            int greatest = NONE;
            for (int k = 0; k < cornerCount; k++) {
                if (heights[k] == height) {
                    greatest = Math.max(greatest, radiuses[k]);
                } else if (k > 0 && heights[k - 1] < height && height < heights[k]) {
                    int span = heights[k] - heights[k - 1];
                    return scaledRadius(k, 0, height) / span;
                }
            }
            return greatest;
        }

        int radiusOrZero(int height) {
            return Math.max(0, radiusAt(height));
        }

        /** The radius at a height of the piece below corner k, times the piece's span, so that it is whole. */
        private int scaledRadius(int k, int wall, int height) {
            int lower = Math.max(0, radiuses[k - 1] - wall);
            int upper = Math.max(0, radiuses[k] - wall);
            return lower * (heights[k] - height) + upper * (height - heights[k - 1]);
        }

        void measure(Fraction sum, int height) {
            sum.clearToZero();
            addPieces(sum, 0, 0, height);
        }

        void measureHeld(Fraction sum, int height) {
            sum.clearToZero();
            if (cornerCount > 0) {
                addPieces(sum, thickness, heights[0] + thickness, height);
            }
        }

        private void addPieces(Fraction sum, int wall, int from, int to) {
            for (int k = 1; k < cornerCount; k++) {
                int low = Math.max(from, heights[k - 1]);
                int high = Math.min(to, heights[k]);
                if (low < high) {
                    addPiece(sum, k, wall, low, high);
                }
            }
        }

        private void addPiece(Fraction sum, int k, int wall, int low, int high) {
            long span = heights[k] - heights[k - 1];
            long r = scaledRadius(k, wall, low);
            long s = scaledRadius(k, wall, high);
            sum.add((high - low) * (r * r + r * s + s * s), 3 * span * span);
        }

        boolean cutAt(int height) {
            if (wasCut || cornerCount == 0 || height <= heights[0] || height >= heights[cornerCount - 1]) {
                return false;
            }
            int there = radiusAt(height);
            int kept = countUpTo(height);
            wasCut = true;
            // The top lies above the cut, so that a place for one more corner is there.
            if (kept > 0 && kept < MOST_CORNERS && heights[kept - 1] != height) {
                heights[kept] = height;
                radiuses[kept] = there;
                kept++;
            }
            cornerCount = kept;
            return true;
        }

        private int countUpTo(int height) {
            int found = 0;
            for (int k = 0; k < cornerCount; k++) {
                if (heights[k] <= height) {
                    found++;
                }
            }
            return found;
        }

        int countOffAxis() {
            int found = 0;
            for (int k = 0; k < cornerCount; k++) {
                if (radiuses[k] != 0) {
                    found++;
                }
            }
            return found;
        }

        /** The corner that has so many corners off the axis ahead of it and is off it too; NONE without one. */
        int findOffAxis(int ahead) {
            int passed = 0;
            for (int k = 0; k < cornerCount; k++) {
                if (radiuses[k] == 0) {
                    continue;
                }
                if (passed == ahead) {
                    return k;
                }
                passed++;
            }
            return NONE;
        }
    }

    /**
     * A fraction, not below 0, that cannot be lessened. Its largest sum is that of a held volume that begins
     * and ends within two pieces: at most 16000000 times 9 times both spans' squares (of spans that are 400
     * together), some 2.4e17, so that no sum leaves a long.
     */
    private static final class Fraction {
        private long above;
        private long below = 1;

        void clearToZero() {
            above = 0;
            below = 1;
        }

        /** Lessens the fraction that comes in before it is added: else full pieces would let the sum grow too large. */
        void add(long moreAbove, long moreBelow) {
            long common = commonDivisor(moreAbove, moreBelow);
            if (common == 0) {
                return;
            }
            long addedAbove = moreAbove / common;
            long addedBelow = moreBelow / common;
            above = above * addedBelow + addedAbove * below;
            below = below * addedBelow;
            lessen();
        }

        private void lessen() {
            long common = commonDivisor(above, below);
            if (common > 1) {
                above = above / common;
                below = below / common;
            }
        }

        private static long commonDivisor(long one, long other) {
            long larger = one;
            long smaller = other;
            for (int step = 0; step < MOST_DIVISOR_STEPS && smaller != 0; step++) {
                long rest = larger % smaller;
                larger = smaller;
                smaller = rest;
            }
            return larger;
        }

        long tell(int part) {
            return part == 0 ? above : below;
        }

        long roundedDown() {
            return below == 0 ? 0 : above / below;
        }

        long circledDown() {
            return timesDown(CIRCLE_LOW) / CIRCLE_UNIT;
        }

        long circledUp() {
            return (timesUp(CIRCLE_HIGH) + CIRCLE_UNIT - 1) / CIRCLE_UNIT;
        }

        /** Whole and rest are multiplied apart, since the part above times the factor may leave a long. */
        private long timesDown(long factor) {
            if (below == 0) {
                return 0;
            }
            return above / below * factor + above % below * factor / below;
        }

        private long timesUp(long factor) {
            if (below == 0) {
                return 0;
            }
            return above / below * factor + (above % below * factor + below - 1) / below;
        }
    }
}
