/** The document's "Terms", sentence by sentence: each that names a boundary case has a test of its own. */
public final class TermsTest {
    public static void main(String[] args) {
        useOfAnObject();
        profilesAreSix();
        atMostTwelveCorners();
        heightsOfCorners();
        radiusesOfCorners();
        noCornerLower();
        noCornerTheSame();
        noThreeOfOneHeight();
        straightLines();
        fromFirstToTop();
        fractionsLessened();
        nothingIsZeroOfOne();
        piecesOfVolume();
        flatPiecesHaveNone();
        wallsFromNothingToFifty();
        radiusesLessByTheWall();
        notBelowZeroWithinTheWall();
        heldFromTheWallOn();
        heldToItsTopAtMost();
        nothingHeldIfNotAbove();
        enclosedFromBelow();
        enclosedFromAbove();
        Due.end("TermsTest");
    }

    private static void useOfAnObject() {
        Due.sentence("An object is used for at most 512 calls after it has been made");
        PotVolumes x = Made.pot(0, 200, 199, 157, 400, 199);
        Due.answer("wall(0, 1)", 0, x.wall(0, 1));
        for (int call = 6; call <= 510; call++) {
            Due.answer("call " + call, 6692124941924744L, x.holds(0, 399, 0));
        }
        Due.answer("call 511", 533306667L, x.holds(0, 399, 1));
        Due.answer("call 512", 1, x.profile());
    }

    private static void profilesAreSix() {
        Due.sentence("PROFILES are 0 .. 5");
        PotVolumes x = Made.profiles(6);
        for (int profile = 0; profile <= 5; profile++) {
            Made.addCorners(x, profile, profile, 100 + profile);
        }
        for (int profile = 0; profile <= 5; profile++) {
            Made.corners(x, profile, profile, 100 + profile);
        }
        Made.noSuchProfile("at", 6, profile -> x.at(profile, -1, 0));
    }

    private static void atMostTwelveCorners() {
        Due.sentence("rows of at most 12 CORNERS");
        PotVolumes x = Made.potOfTwelve();
        Due.noState("a thirteenth corner", () -> Due.bit(x.corner(0, 120, 12)));
        Made.corners(x, 0, 0, 0, 10, 1, 20, 2, 30, 3, 40, 4, 50, 5, 60, 6, 70, 7, 80, 8, 90, 9, 100, 10, 110, 11);
    }

    private static void heightsOfCorners() {
        Due.sentence("each of a HEIGHT 0 .. 400");
        PotVolumes x = Made.pot(0, 1);
        Made.notWithin("corner's height", 0, 400, height -> Due.bit(x.corner(0, height, 1)));
        Made.addCorners(x, 0, 400, 1);
        Made.corners(x, 0, 0, 1, 400, 1);
    }

    private static void radiusesOfCorners() {
        Due.sentence("a RADIUS 0 .. 200");
        PotVolumes x = Made.pot(1, 0);
        Made.notWithin("corner's radius", 0, 200, radius -> Due.bit(x.corner(0, 2, radius)));
        Made.addCorners(x, 0, 2, 200);
        Made.corners(x, 0, 1, 0, 2, 200);
    }

    private static void noCornerLower() {
        Due.sentence("no corner lies lower than the one ahead of it");
        PotVolumes x = Made.pot(5, 9, 20, 9);
        Due.no("one lower by 1", x.corner(0, 19, 8));
        Due.no("one as low as the first", x.corner(0, 5, 8));
        Due.no("one as low as can be", x.corner(0, 0, 8));
        Due.yes("one as high", x.corner(0, 20, 8));
        Due.no("one lower than a flat piece", x.corner(0, 19, 8));
        Due.yes("one higher by 1", x.corner(0, 21, 8));
        Made.corners(x, 0, 5, 9, 20, 9, 20, 8, 21, 8);
    }

    private static void noCornerTheSame() {
        Due.sentence("none is the same as that");
        PotVolumes x = Made.pot(20, 9);
        Due.no("the same one", x.corner(0, 20, 9));
        Due.yes("one of the same radius", x.corner(0, 21, 9));
        Due.no("the same one", x.corner(0, 21, 9));
        Due.yes("one of the same height", x.corner(0, 21, 10));
        PotVolumes axis = Made.pot(0, 0);
        Due.no("the same one on the axis", axis.corner(0, 0, 0));
        Due.yes("the highest one", axis.corner(0, 400, 200));
        Due.no("the same one as the highest", axis.corner(0, 400, 200));
        Made.corners(x, 0, 20, 9, 21, 9, 21, 10);
        Made.corners(axis, 0, 0, 0, 400, 200);
    }

    private static void noThreeOfOneHeight() {
        Due.sentence("no three that follow one another have the same height");
        PotVolumes x = Made.pot(0, 0, 0, 30);
        Due.no("a third at the foot", x.corner(0, 0, 40));
        Due.no("a third like the first of the three", x.corner(0, 0, 0));
        Made.addCorners(x, 0, 7, 40, 7, 30);
        Due.no("a third on the way", x.corner(0, 7, 35));
        Made.addCorners(x, 0, 400, 3, 400, 4);
        Due.no("a third at the highest", x.corner(0, 400, 5));
        Made.corners(x, 0, 0, 0, 0, 30, 7, 40, 7, 30, 400, 3, 400, 4);
    }

    private static void straightLines() {
        Due.sentence("Between two corners the radius goes along a straight line");
        PotVolumes x = Made.pot(10, 0, 15, 10, 15, 3, 17, 3, 20, 0);
        Made.radiuses(x, 10, 0, 11, 2, 12, 4, 13, 6, 14, 8, 16, 3, 17, 3, 18, 2, 19, 1, 20, 0);
        Made.volume(x, 13, 36, 1);
    }

    private static void fromFirstToTop() {
        Due.sentence("from its first corner's height to its last one's, its TOP");
        PotVolumes x = Made.pot(399, 1, 400, 1);
        Made.radiuses(x, 398, -1, 399, 1, 400, 1, 401, -1);
        Made.volume(x, 399, 0, 1);
        Made.volume(x, 400, 1, 1);
        Made.volume(x, 401, 1, 1);
    }

    private static void fractionsLessened() {
        Due.sentence("told without the circle number, as a FRACTION that cannot be lessened");
        Made.volume(Made.pot(0, 0, 1, 1), 1, 1, 3);
        Made.volume(Made.pot(0, 0, 2, 1), 2, 2, 3);
        Made.volume(Made.pot(0, 0, 3, 1), 3, 1, 1);
        Made.volume(Made.pot(0, 1, 1, 1), 1, 1, 1);
        Made.volume(Made.pot(0, 0, 6, 3), 4, 16, 3);
        // 2 / 3 and 1 / 3 are whole together.
        Made.volume(Made.pot(0, 0, 2, 1, 2, 0, 3, 1), 3, 1, 1);
        // 4 / 3 and 1 / 27: what is below is 27, not 81.
        Made.volume(Made.pot(0, 0, 1, 2, 1, 0, 4, 1), 2, 37, 27);
        // 21 / 2 and 127 / 12: 2 alone is what both have below.
        Made.holds(Made.withWall(2, Made.pot(0, 2, 4, 5, 6, 6)), 5, 253, 12);
    }

    private static void nothingIsZeroOfOne() {
        Due.sentence("(0 / 1 if it is 0)");
        Made.volume(Made.pot(), 400, 0, 1);
        Made.volume(Made.pot(7, 9), 400, 0, 1);
        Made.volume(Made.pot(7, 9, 7, 3), 400, 0, 1);
        Made.volume(Made.pot(7, 0, 17, 0), 17, 0, 1);
        Made.volume(Made.pot(7, 3, 17, 3), 7, 0, 1);
        Made.volume(Made.pot(7, 3, 17, 3), 6, 0, 1);
        Made.holds(Made.pot(), 400, 0, 1);
        Made.holds(Made.withWall(3, Made.pot(7, 3, 17, 3)), 17, 0, 1);
        Made.holds(Made.withWall(10, Made.pot(7, 30, 17, 30)), 17, 0, 1);
    }

    private static void piecesOfVolume() {
        Due.sentence("of a piece from radius r to s over a height h it is h (r r + r s + s s) / 3");
        Made.volume(Made.pot(0, 2, 5, 7), 5, 335, 3);
        Made.volume(Made.pot(0, 7, 5, 2), 5, 335, 3);
        Made.volume(Made.pot(0, 0, 1, 1), 1, 1, 3);
        Made.volume(Made.pot(0, 200, 400, 200), 400, 16000000, 1);
        Made.volume(Made.pot(0, 0, 400, 200), 400, 16000000, 3);
        Made.volume(Made.pot(0, 2, 5, 7, 8, 1), 8, 506, 3);
    }

    private static void flatPiecesHaveNone() {
        Due.sentence("flat pieces have none");
        Made.volume(Made.pot(5, 0, 5, 200), 5, 0, 1);
        Made.volume(Made.pot(0, 0, 0, 10, 10, 10, 10, 5, 20, 5, 20, 0), 10, 1000, 1);
        Made.volume(Made.pot(0, 0, 0, 10, 10, 10, 10, 5, 20, 5, 20, 0), 20, 1250, 1);
        Made.volume(Made.pot(0, 5, 10, 5, 10, 10, 20, 10), 11, 350, 1);
        // The flat foot ends where the held begins, and the flat piece lies within.
        Made.holds(Made.withWall(1, Made.pot(0, 0, 0, 11, 10, 11, 10, 6, 20, 6)), 20, 1150, 1);
    }

    private static void wallsFromNothingToFifty() {
        Due.sentence("A pot has a WALL 0 .. 50 (0 at first)");
        PotVolumes x = Made.profiles(6);
        for (int profile = 0; profile < 6; profile++) {
            Due.answer("the first wall of " + profile, 0, x.wall(profile, 50));
        }
        Made.notWithin("wall", 0, 50, thickness -> x.wall(0, thickness));
        for (int profile = 0; profile < 6; profile++) {
            Due.answer("the second wall of " + profile, 50, x.wall(profile, 0));
            Due.answer("the third wall of " + profile, 0, x.wall(profile, 1));
        }
        Made.holds(Made.pot(0, 3, 10, 3), 10, 90, 1);
    }

    private static void radiusesLessByTheWall() {
        Due.sentence("the volume of the profile whose radiuses at all corners are less by the wall");
        Made.holds(Made.withWall(1, Made.pot(0, 3, 10, 3)), 10, 36, 1);
        Made.holds(Made.withWall(50, Made.pot(0, 51, 51, 51)), 51, 1, 1);
        Made.holds(Made.withWall(50, Made.pot(0, 200, 400, 200)), 400, 350 * 150 * 150, 1);
        Made.holds(Made.withWall(2, Made.pot(0, 4, 6, 7, 9, 4)), 9, 313, 3);
    }

    private static void notBelowZeroWithinTheWall() {
        Due.sentence("(but not below 0)");
        Made.holds(Made.withWall(3, Made.pot(0, 4, 10, 4)), 10, 7, 1);
        Made.holds(Made.withWall(3, Made.pot(0, 3, 10, 3)), 10, 0, 1);
        Made.holds(Made.withWall(3, Made.pot(0, 2, 10, 2)), 10, 0, 1);
        Made.holds(Made.withWall(50, Made.pot(0, 0, 400, 49)), 400, 0, 1);
        // At a corner within the wall the radius is 0, and from there the line goes on to the next corner.
        Made.holds(Made.withWall(3, Made.pot(0, 0, 6, 12)), 6, 567, 4);
        Made.holds(Made.withWall(3, Made.pot(0, 6, 6, 0, 12, 6)), 12, 81, 4);
        Made.holds(Made.withWall(3, Made.pot(0, 6, 6, 2)), 6, 9, 4);
    }

    private static void heldFromTheWallOn() {
        Due.sentence("from the height of the first corner and the wall on");
        PotVolumes x = Made.withWall(4, Made.pot(10, 14, 30, 14));
        Made.holds(x, 14, 0, 1);
        Made.holds(x, 15, 100, 1);
        Made.holds(x, 30, 1600, 1);
        // The wall's height lies above a whole piece, and at a corner.
        Made.holds(Made.withWall(4, Made.pot(10, 5, 13, 5, 13, 14, 30, 14)), 15, 100, 1);
        Made.holds(Made.withWall(4, Made.pot(10, 5, 14, 5, 14, 14, 30, 14)), 15, 100, 1);
        Made.holds(Made.withWall(4, Made.pot(10, 5, 15, 5, 15, 14, 30, 14)), 15, 1, 1);
    }

    private static void heldToItsTopAtMost() {
        Due.sentence("to that height (to its top at most)");
        PotVolumes x = Made.withWall(4, Made.pot(10, 14, 30, 14));
        Made.holds(x, 29, 1500, 1);
        Made.holds(x, 30, 1600, 1);
        Made.holds(x, 31, 1600, 1);
        Made.holds(x, 400, 1600, 1);
        Made.holds(x, Integer.MAX_VALUE, 1600, 1);
    }

    private static void nothingHeldIfNotAbove() {
        Due.sentence("0 if that is not above");
        PotVolumes x = Made.withWall(4, Made.pot(10, 14, 30, 14));
        for (int height : new int[] {14, 13, 10, 9, 0, -1, Integer.MIN_VALUE}) {
            Made.holds(x, height, 0, 1);
        }
        Made.holds(Made.withWall(19, Made.pot(10, 29, 30, 29)), 400, 100, 1);
        Made.holds(Made.withWall(20, Made.pot(10, 30, 30, 30)), 400, 0, 1);
        Made.holds(Made.withWall(21, Made.pot(10, 31, 30, 31)), 400, 0, 1);
        Made.holds(Made.withWall(50, Made.pot(400, 200)), Integer.MAX_VALUE, 0, 1);
        Made.enclosed(Made.withWall(20, Made.pot(10, 30, 30, 30)), 0, 0);
    }

    private static void enclosedFromBelow() {
        Due.sentence("a fraction times 3.14159265, rounded down to a whole number");
        enclosedDown(0, Made.pot());
        enclosedDown(0, Made.pot(0, 5, 0, 9));
        enclosedDown(1, Made.pot(0, 0, 1, 1));
        enclosedDown(3, Made.pot(0, 1, 1, 1));
        // 20000000 / 3 times it is whole.
        enclosedDown(20943951, Made.pot(0, 200, 100, 200, 300, 0));
        // 9653297 / 3 times it is below 10108909 by less than a hundredth.
        enclosedDown(10108908, Made.pot(0, 200, 5, 19, 289, 172));
        enclosedDown(50265482, Made.pot(0, 200, 400, 200));
    }

    private static void enclosedDown(long due, PotVolumes x) {
        Due.answer("enclosed(0, 0)", due, x.enclosed(0, 0));
    }

    private static void enclosedFromAbove() {
        Due.sentence("and times 3.14159266, rounded up");
        enclosedUp(0, Made.pot());
        enclosedUp(0, Made.pot(0, 5, 0, 9));
        enclosedUp(2, Made.pot(0, 0, 1, 1));
        enclosedUp(4, Made.pot(0, 1, 1, 1));
        // 20000000 / 3 times 3.14159265 is 20943951, so that times 3.14159266 it is a little above.
        enclosedUp(20943952, Made.pot(0, 200, 100, 200, 300, 0));
        // 9653297 / 3 times it is above 10108909 by less than 1 / 100000000.
        enclosedUp(10108910, Made.pot(0, 200, 5, 19, 289, 172));
        // 15680000 times it is below 49260173; times 3.14159267 it would be above.
        enclosedUp(49260173, Made.pot(0, 200, 392, 200));
        enclosedUp(50265483, Made.pot(0, 200, 400, 200));
    }

    private static void enclosedUp(long due, PotVolumes x) {
        Due.answer("enclosed(0, 1)", due, x.enclosed(0, 1));
    }
}
