/** Promises 6 to 8, 13 and 14, sentence by sentence: each that names a boundary case has a test of its own. */
public final class VolumesTest {
    public static void main(String[] args) {
        volumeUpToAHeight();
        volumeToItsTopAtMost();
        volumeOfNoProfile();
        volumeOfNoPart();
        holdsUpToAHeight();
        holdsOfNoProfile();
        holdsOfNoPart();
        enclosedUpToTheTop();
        enclosedOfNoProfile();
        enclosedNeither();
        boundsCounted();
        boundOutside();
        boundAfterTen();
        boundsNotAbove();
        sizeRoundedDown();
        sizeOfNoProfile();
        Due.end("VolumesTest");
    }

    private static void volumeUpToAHeight() {
        Due.sentence("6: The volume up to a height");
        PotVolumes x = Made.pot(10, 10, 30, 10);
        for (int height : new int[] {Integer.MIN_VALUE, -1, 0, 9, 10}) {
            Made.volume(x, height, 0, 1);
        }
        Made.volume(x, 11, 100, 1);
        PotVolumes cone = Made.pot(0, 0, 3, 1);
        Made.volume(cone, 1, 1, 27);
        Made.volume(cone, 2, 8, 27);
        Made.volume(cone, 3, 1, 1);
        // The wall is no part of a volume.
        Made.volume(Made.withWall(5, Made.pot(10, 10, 30, 10)), 11, 100, 1);
        Made.volume(Made.pot(0, 200, 199, 7, 400, 200), 333, 97636517, 27);
    }

    private static void volumeToItsTopAtMost() {
        Due.sentence("6: (to its top at most)");
        PotVolumes x = Made.pot(10, 10, 30, 10);
        Made.volume(x, 29, 1900, 1);
        for (int height : new int[] {30, 31, 400, 401, Integer.MAX_VALUE}) {
            Made.volume(x, height, 2000, 1);
        }
        Due.yes("cut(0, 20)", x.cut(0, 20));
        Made.volume(x, 30, 1000, 1);
        PotVolumes rounded = Made.pot(10, 20, 20, 25);
        Due.yes("cut(0, 13)", rounded.cut(0, 13));
        Made.volume(rounded, 400, 1261, 1);
    }

    private static void volumeOfNoProfile() {
        Due.sentence("6: IndexOutOfBoundsException: profile");
        PotVolumes x = Made.pot(0, 4, 9, 4);
        Made.noSuchProfile("volume(.., 5, 0)", 1, profile -> x.volume(profile, 5, 0));
        Made.noSuchProfile("volume(.., -1, 1)", 1, profile -> x.volume(profile, -1, 1));
    }

    private static void volumeOfNoPart() {
        Due.sentence("6: IndexOutOfBoundsException: .. or part");
        PotVolumes x = Made.pot(0, 4, 9, 4);
        Made.neither("volume(0, 5, ..)", part -> x.volume(0, 5, part));
        Made.neither("volume(0, -1, ..)", part -> x.volume(0, -1, part));
        PotVolumes none = Made.pot();
        Made.neither("volume(0, 0, ..)", part -> none.volume(0, 0, part));
    }

    private static void holdsUpToAHeight() {
        Due.sentence("7: What it holds up to a height");
        PotVolumes x = Made.pot(10, 14, 30, 14);
        Made.holds(x, 10, 0, 1);
        Made.holds(x, 11, 196, 1);
        Due.answer("wall(0, 4)", 0, x.wall(0, 4));
        Made.holds(x, 14, 0, 1);
        Made.holds(x, 15, 100, 1);
        Made.holds(x, 30, 1600, 1);
        Made.holds(x, Integer.MAX_VALUE, 1600, 1);
        Made.holds(x, Integer.MIN_VALUE, 0, 1);
        // It begins within one piece and ends within another one: the largest numbers that can be.
        PotVolumes wide = Made.withWall(1, Made.pot(0, 200, 199, 157, 400, 199));
        Made.holds(wide, 399, 6692124941924744L, 533306667);
        Made.holds(wide, 400, 498478550508L, 39601);
        heldWithinFlatAndNarrowPieces();
    }

    private static void heldWithinFlatAndNarrowPieces() {
        PotVolumes x = Made.pot(5, 0, 7, 50, 60, 53, 60, 20, 131, 90);
        Made.holds(x, 100, 1061440969L, 5041);
        Due.answer("wall(0, 3)", 0, x.wall(0, 3));
        Made.holds(x, 100, 7714921676872L, 42480507);
        Made.holds(x, 131, 2894447015L, 8427);
        Due.answer("wall(0, 30)", 3, x.wall(0, 30));
        Made.holds(x, 100, 391713896275L, 14160169);
        Due.answer("wall(0, 50)", 30, x.wall(0, 50));
        Made.holds(x, 100, 289378552165L, 42480507);
        Made.holds(x, 131, 319446965, 8427);
    }

    private static void holdsOfNoProfile() {
        Due.sentence("7: IndexOutOfBoundsException: profile");
        PotVolumes x = Made.pot(0, 4, 9, 4);
        Made.noSuchProfile("holds(.., 5, 0)", 1, profile -> x.holds(profile, 5, 0));
        Made.noSuchProfile("holds(.., -1, 1)", 1, profile -> x.holds(profile, -1, 1));
    }

    private static void holdsOfNoPart() {
        Due.sentence("7: IndexOutOfBoundsException: .. or part");
        PotVolumes x = Made.withWall(1, Made.pot(0, 4, 9, 4));
        Made.neither("holds(0, 5, ..)", part -> x.holds(0, 5, part));
        Made.neither("holds(0, 1, ..)", part -> x.holds(0, 1, part));
        PotVolumes none = Made.pot();
        Made.neither("holds(0, 0, ..)", part -> none.holds(0, 0, part));
    }

    private static void enclosedUpToTheTop() {
        Due.sentence("8: What it holds up to its top, enclosed: rounded down (0) or up (1).");
        Made.enclosed(Made.pot(), 0, 0);
        Made.enclosed(Made.pot(7, 9), 0, 0);
        Made.enclosed(Made.pot(0, 1, 1, 1), 3, 4);
        Made.enclosed(Made.pot(399, 1, 400, 1), 3, 4);
        PotVolumes x = Made.pot(0, 0, 0, 30, 60, 60, 90, 0);
        Made.enclosed(x, 508938, 508939);
        Due.answer("wall(0, 7)", 0, x.wall(0, 7));
        Made.enclosed(x, 361078, 361079);
        Due.yes("cut(0, 7)", x.cut(0, 7));
        Made.enclosed(x, 0, 0);
        Made.enclosed(Made.withWall(1, Made.pot(0, 1, 2, 2)), 1, 2);
        // 1 / 7803, the least that is more than nothing.
        Made.enclosed(Made.withWall(50, Made.pot(0, 51, 51, 50)), 0, 1);
    }

    private static void enclosedOfNoProfile() {
        Due.sentence("8: IndexOutOfBoundsException: profile");
        PotVolumes x = Made.pot(0, 4, 9, 4);
        Made.noSuchProfile("enclosed(.., 0)", 1, profile -> x.enclosed(profile, 0));
        Made.noSuchProfile("enclosed(.., 1)", 1, profile -> x.enclosed(profile, 1));
    }

    private static void enclosedNeither() {
        Due.sentence("8: IndexOutOfBoundsException: .. or what is neither");
        PotVolumes x = Made.pot(0, 4, 9, 4);
        Made.neither("enclosed(0, ..)", end -> x.enclosed(0, end));
        PotVolumes none = Made.pot();
        Made.neither("enclosed(0, ..)", end -> none.enclosed(0, end));
    }

    private static void boundsCounted() {
        Due.sentence("13: A bound of a class of sizes: how many bounds there are.");
        PotVolumes x = new PotVolumes();
        for (int i = 1; i <= 10; i++) {
            Due.answer("bound(" + (10 - i) + ")", i, x.bound(10 - i));
            Due.answer("count(1)", i, x.count(1));
        }
        PotVolumes same = new PotVolumes();
        Due.answer("bound(5)", 1, same.bound(5));
        Due.answer("bound(5) once more", 2, same.bound(5));
    }

    private static void boundOutside() {
        Due.sentence("13: IllegalArgumentException: v is not 0 .. 1000000000.");
        PotVolumes x = new PotVolumes();
        Made.notWithin("bound", 0, 1000000000, v -> x.bound(v));
        Due.answer("count(1)", 0, x.count(1));
        Due.answer("bound(0)", 1, x.bound(0));
        Due.answer("bound(1000000000)", 2, x.bound(1000000000));
    }

    private static void boundAfterTen() {
        Due.sentence("13: IllegalStateException: there are ten.");
        PotVolumes x = Made.bounds(Made.pot(), 0, 0, 0, 0, 0, 0, 0, 0, 0, 0);
        Due.noState("an eleventh", () -> x.bound(0));
        Due.noState("an eleventh once more", () -> x.bound(1000000000));
        Made.notWithin("an eleventh", 0, 1000000000, v -> x.bound(v));
        Due.answer("count(1)", 10, x.count(1));
        Due.answer("size(0)", 10, x.size(0));
    }

    private static void boundsNotAbove() {
        Due.sentence("14: how many bounds are not above what it holds");
        PotVolumes x = Made.pot(0, 0, 0, 30, 60, 60, 90, 0);
        Due.answer("without bounds", 0, x.size(0));
        Made.bounds(x, 508939);
        Due.answer("one just above", 0, x.size(0));
        Made.bounds(x, 508938);
        Due.answer("one that is it", 1, x.size(0));
        Made.bounds(x, 508937, 1000000000, 0, 508938);
        Due.answer("in any order, and twice", 4, x.size(0));
        Due.answer("wall(0, 7)", 0, x.wall(0, 7));
        Due.answer("within its wall", 1, x.size(0));
        Due.answer("wall(0, 0)", 7, x.wall(0, 0));
        Made.bounds(x, 361078, 361079, 100, 200);
        Due.answer("all ten", 8, x.size(0));
        Due.answer("wall(0, 7)", 0, x.wall(0, 7));
        Due.answer("all ten within its wall", 4, x.size(0));
        PotVolumes nothing = Made.bounds(Made.pot(), 0, 1);
        Due.answer("what holds nothing", 1, nothing.size(0));
    }

    private static void sizeRoundedDown() {
        Due.sentence("14: rounded down");
        // It holds 3.14 ..; 20943951 exactly; and a little less than 10108909.
        Due.answer("3 and 4", 1, Made.bounds(Made.pot(0, 1, 1, 1), 3, 4).size(0));
        Due.answer("20943951 and 20943952", 1,
                Made.bounds(Made.pot(0, 200, 100, 200, 300, 0), 20943951, 20943952).size(0));
        Due.answer("10108908 and 10108909", 1,
                Made.bounds(Made.pot(0, 200, 5, 19, 289, 172), 10108908, 10108909).size(0));
        Due.answer("50265482 and 50265483", 1,
                Made.bounds(Made.pot(0, 200, 400, 200), 50265482, 50265483).size(0));
    }

    private static void sizeOfNoProfile() {
        Due.sentence("14: IndexOutOfBoundsException.");
        PotVolumes x = Made.pot(0, 4, 9, 4);
        Made.noSuchProfile("size without bounds", 1, profile -> x.size(profile));
        Made.bounds(x, 0);
        Made.noSuchProfile("size", 1, profile -> x.size(profile));
    }
}
