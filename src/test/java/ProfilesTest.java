/** Promises 1 to 5 and 9 to 12, sentence by sentence: each that names a boundary case has a test of its own. */
public final class ProfilesTest {
    public static void main(String[] args) {
        newObjectHasNothing();
        numbersOfProfiles();
        seventhProfile();
        cornerThatCanBe();
        cornerOfNoProfile();
        cornerOutsideHeights();
        cornerOutsideRadiuses();
        cornerAfterTwelve();
        cornerAfterCut();
        cornerTold();
        cornersCounted();
        atOfNoProfile();
        atNoCorner();
        atNeither();
        radiusRoundedDown();
        radiusOnFlatPieces();
        radiusBelowTheFirst();
        radiusAboveTheTop();
        radiusWithoutCorners();
        radiusOfNoProfile();
        wallThatWas();
        wallOfNoProfile();
        wallTooThinOrThick();
        unlikeOverAllHeights();
        unlikeWhereThereIsNone();
        unlikeOfNoProfile();
        cutDropsCornersAbove();
        cutAddsACorner();
        cutWhereOneHasThatHeight();
        cutNotAtOrBelowTheFirst();
        cutNotAtOrAboveTheTop();
        cutNotASecondTime();
        cutOfNoProfile();
        drawnMirrored();
        drawnOffTheAxis();
        drawnCounted();
        drawnOfNoProfile();
        drawnNoPoint();
        drawnNeither();
        Due.end("ProfilesTest");
    }

    private static void newObjectHasNothing() {
        Due.sentence("1: No profiles, places, bounds.");
        PotVolumes x = new PotVolumes();
        for (int what = 0; what <= 3; what++) {
            Due.answer("count(" + what + ")", 0, x.count(what));
        }
        for (int profile = 0; profile <= 5; profile++) {
            int p = profile;
            Due.noIndex("at of " + p, () -> x.at(p, -1, 0));
            Due.noIndex("radius of " + p, () -> x.radius(p, 0));
        }
        Due.noState("circle(0)", () -> x.circle(0));
        Due.answer("clear()", 0, x.clear());
        Due.answer("the first bound", 1, x.bound(0));
        Due.answer("the first place", 1, x.rim(0, 0));
        Due.answer("the first profile", 0, x.profile());
        PotVolumes another = new PotVolumes();
        for (int what = 0; what <= 3; what++) {
            Due.answer("count(" + what + ") of another object", 0, another.count(what));
        }
    }

    private static void numbersOfProfiles() {
        Due.sentence("2: A profile without corners: its number.");
        PotVolumes x = new PotVolumes();
        for (int profile = 0; profile < 6; profile++) {
            int next = profile;
            Due.noIndex("at before profile " + next, () -> x.at(next, -1, 0));
            Due.answer("profile()", next, x.profile());
            Due.answer("at(" + next + ", -1, 0)", 0, x.at(next, -1, 0));
            Due.noIndex("at(" + next + ", 0, 0)", () -> x.at(next, 0, 0));
        }
    }

    private static void seventhProfile() {
        Due.sentence("2: IllegalStateException: there are six.");
        PotVolumes x = Made.profiles(6);
        Due.noState("a seventh profile", () -> x.profile());
        Due.noState("a seventh profile once more", () -> x.profile());
        Due.answer("count(0)", 6, x.count(0));
    }

    private static void cornerThatCanBe() {
        Due.sentence("3: A corner: whether it can be one there.");
        PotVolumes x = Made.pot();
        Due.yes("any corner as the first", x.corner(0, 400, 0));
        Due.no("a lower one", x.corner(0, 399, 0));
        Due.no("the same one", x.corner(0, 400, 0));
        Due.yes("one beside it", x.corner(0, 400, 1));
        Due.no("a third of that height", x.corner(0, 400, 2));
        Made.corners(x, 0, 400, 0, 400, 1);
    }

    private static void cornerOfNoProfile() {
        Due.sentence("3: IndexOutOfBoundsException");
        PotVolumes x = Made.pot(3, 4);
        Made.noSuchProfile("corner", 1, profile -> Due.bit(x.corner(profile, 5, 5)));
        Made.noSuchProfile("corner of a wrong height", 1, profile -> Due.bit(x.corner(profile, 401, 5)));
        Made.noSuchProfile("corner of a wrong radius", 1, profile -> Due.bit(x.corner(profile, 5, -1)));
        Made.corners(x, 0, 3, 4);
    }

    private static void cornerOutsideHeights() {
        Due.sentence("3: IllegalArgumentException: height");
        PotVolumes x = Made.pot(3, 4);
        Made.notWithin("corner", 0, 400, height -> Due.bit(x.corner(0, height, 0)));
        Made.notWithin("corner", 0, 400, height -> Due.bit(x.corner(0, height, 200)));
        Made.corners(x, 0, 3, 4);
    }

    private static void cornerOutsideRadiuses() {
        Due.sentence("3: IllegalArgumentException: .. or radius");
        PotVolumes x = Made.pot(3, 4);
        Made.notWithin("corner", 0, 200, radius -> Due.bit(x.corner(0, 400, radius)));
        Made.notWithin("corner that could not be", 0, 200, radius -> Due.bit(x.corner(0, 0, radius)));
        Made.corners(x, 0, 3, 4);
    }

    private static void cornerAfterTwelve() {
        Due.sentence("3: IllegalStateException: it has twelve");
        PotVolumes x = Made.potOfTwelve();
        Due.noState("a thirteenth", () -> Due.bit(x.corner(0, 400, 5)));
        Due.noState("a thirteenth that could not be", () -> Due.bit(x.corner(0, 0, 5)));
        Due.noState("the twelfth once more", () -> Due.bit(x.corner(0, 110, 11)));
        Due.noArgument("a thirteenth of a wrong height", () -> Due.bit(x.corner(0, 401, 5)));
        Due.noArgument("a thirteenth of a wrong radius", () -> Due.bit(x.corner(0, 400, 201)));
        Due.answer("at(0, -1, 0)", 12, x.at(0, -1, 0));
        Due.answer("profile()", 1, x.profile());
        Due.yes("a corner of another profile", x.corner(1, 400, 5));
        PotVolumes eleven = Made.pot(0, 0, 1, 0, 2, 0, 3, 0, 4, 0, 5, 0, 6, 0, 7, 0, 8, 0, 9, 0, 10, 0);
        Due.no("a twelfth that cannot be", eleven.corner(0, 9, 5));
        Due.yes("a twelfth", eleven.corner(0, 10, 5));
        Due.noState("a thirteenth", () -> Due.bit(eleven.corner(0, 11, 5)));
    }

    private static void cornerAfterCut() {
        Due.sentence("3: IllegalStateException: .. or was cut");
        PotVolumes x = Made.pot(0, 4, 10, 4);
        Due.no("a cut that cannot be", x.cut(0, 10));
        Due.yes("a corner after it", x.corner(0, 12, 4));
        Due.yes("cut(0, 5)", x.cut(0, 5));
        Due.noState("a corner after the cut", () -> Due.bit(x.corner(0, 20, 4)));
        Due.noState("one that could not be", () -> Due.bit(x.corner(0, 0, 4)));
        Due.noArgument("one of a wrong height", () -> Due.bit(x.corner(0, -1, 4)));
        Due.noArgument("one of a wrong radius", () -> Due.bit(x.corner(0, 20, 201)));
        Made.corners(x, 0, 0, 4, 5, 4);
        Due.answer("profile()", 1, x.profile());
        Due.yes("a corner of another profile", x.corner(1, 20, 4));
    }

    private static void cornerTold() {
        Due.sentence("4: Of corner k: 0 its height, 1 its radius");
        PotVolumes x = Made.potOfTwelve();
        Due.answer("at(0, 0, 0)", 0, x.at(0, 0, 0));
        Due.answer("at(0, 0, 1)", 0, x.at(0, 0, 1));
        Due.answer("at(0, 11, 0)", 110, x.at(0, 11, 0));
        Due.answer("at(0, 11, 1)", 11, x.at(0, 11, 1));
    }

    private static void cornersCounted() {
        Due.sentence("4: k = -1: how many it has");
        Due.answer("of none", 0, Made.pot().at(0, -1, 0));
        Due.answer("of one", 1, Made.pot(7, 9).at(0, -1, 1));
        Due.answer("of twelve", 12, Made.potOfTwelve().at(0, -1, 0));
        PotVolumes x = Made.potOfTwelve();
        Due.yes("cut(0, 15)", x.cut(0, 15));
        Due.answer("of those left", 3, x.at(0, -1, 0));
    }

    private static void atOfNoProfile() {
        Due.sentence("4: IndexOutOfBoundsException: profile");
        PotVolumes x = Made.pot(3, 4);
        Made.noSuchProfile("at(.., 0, 0)", 1, profile -> x.at(profile, 0, 0));
        Made.noSuchProfile("at(.., -1, 1)", 1, profile -> x.at(profile, -1, 1));
    }

    private static void atNoCorner() {
        Due.sentence("4: IndexOutOfBoundsException: .. corner");
        PotVolumes none = Made.pot();
        PotVolumes one = Made.pot(3, 4);
        PotVolumes cut = Made.potOfTwelve();
        Due.yes("cut(0, 15)", cut.cut(0, 15));
        for (int what = 0; what <= 1; what++) {
            int w = what;
            Due.noIndex("the first of none", () -> none.at(0, 0, w));
            for (int k : new int[] {-2, 1, 11, 12, Integer.MIN_VALUE, Integer.MAX_VALUE}) {
                Due.noIndex("corner " + k + " of one", () -> one.at(0, k, w));
            }
            Due.noIndex("the first that was dropped", () -> cut.at(0, 3, w));
            Due.noIndex("a thirteenth", () -> Made.potOfTwelve().at(0, 12, w));
        }
    }

    private static void atNeither() {
        Due.sentence("4: IndexOutOfBoundsException: .. or what is neither");
        PotVolumes x = Made.pot(3, 4);
        Made.neither("at(0, 0, ..)", what -> x.at(0, 0, what));
        Made.neither("at(0, -1, ..)", what -> x.at(0, -1, what));
    }

    private static void radiusRoundedDown() {
        Due.sentence("5: The radius at a height, rounded down");
        Made.radiuses(Made.pot(0, 0, 3, 10), 0, 0, 1, 3, 2, 6, 3, 10);
        Made.radiuses(Made.pot(0, 10, 3, 0), 0, 10, 1, 6, 2, 3, 3, 0);
        Made.radiuses(Made.pot(0, 0, 400, 1), 1, 0, 399, 0, 400, 1);
        Made.radiuses(Made.pot(0, 200, 400, 199), 1, 199, 399, 199);
        Made.radiuses(Made.pot(0, 0, 4, 8), 1, 2, 2, 4, 3, 6);
        Made.radiuses(Made.pot(10, 10, 13, 0, 20, 3), 11, 6, 12, 3, 14, 0, 16, 1, 19, 2);
        // The wall is no part of it.
        Made.radiuses(Made.withWall(3, Made.pot(0, 5, 9, 5)), 0, 5, 4, 5, 9, 5);
    }

    private static void radiusOnFlatPieces() {
        Due.sentence("5: (on a flat piece the greater one)");
        Made.radiuses(Made.pot(5, 3, 5, 8), 5, 8);
        Made.radiuses(Made.pot(5, 8, 5, 3), 5, 8);
        Made.radiuses(Made.pot(0, 0, 0, 30, 60, 60), 0, 30);
        Made.radiuses(Made.pot(0, 30, 0, 0, 60, 60), 0, 30);
        Made.radiuses(Made.pot(0, 9, 10, 3, 10, 8, 20, 1), 10, 8);
        Made.radiuses(Made.pot(0, 9, 10, 8, 10, 3, 20, 1), 10, 8);
        Made.radiuses(Made.pot(0, 9, 20, 3, 20, 0), 20, 3);
        Made.radiuses(Made.pot(0, 9, 20, 0, 20, 3), 20, 3);
    }

    private static void radiusBelowTheFirst() {
        Due.sentence("5: NONE below the first corner");
        Made.radiuses(Made.pot(7, 3, 20, 9), Integer.MIN_VALUE, PotVolumes.NONE, -1, PotVolumes.NONE,
                0, PotVolumes.NONE, 6, PotVolumes.NONE, 7, 3);
        Made.radiuses(Made.pot(0, 3, 20, 9), -1, PotVolumes.NONE, 0, 3);
    }

    private static void radiusAboveTheTop() {
        Due.sentence("5: NONE .. above the top");
        Made.radiuses(Made.pot(7, 3, 20, 9), 20, 9, 21, PotVolumes.NONE, 400, PotVolumes.NONE,
                Integer.MAX_VALUE, PotVolumes.NONE);
        Made.radiuses(Made.pot(7, 3, 400, 9), 400, 9, 401, PotVolumes.NONE);
        PotVolumes cut = Made.pot(7, 3, 400, 9);
        Due.yes("cut(0, 20)", cut.cut(0, 20));
        Made.radiuses(cut, 20, 3, 21, PotVolumes.NONE, 400, PotVolumes.NONE);
    }

    private static void radiusWithoutCorners() {
        Due.sentence("5: NONE .. or without corners");
        Made.radiuses(Made.pot(), 0, PotVolumes.NONE, -1, PotVolumes.NONE, 200, PotVolumes.NONE, 400, PotVolumes.NONE);
        Made.radiuses(Made.pot(7, 0), 0, PotVolumes.NONE, 7, 0, 8, PotVolumes.NONE);
    }

    private static void radiusOfNoProfile() {
        Due.sentence("5: IndexOutOfBoundsException.");
        PotVolumes x = Made.pot(0, 4, 9, 4);
        Made.noSuchProfile("radius(.., 5)", 1, profile -> x.radius(profile, 5));
        Made.noSuchProfile("radius(.., -1)", 1, profile -> x.radius(profile, -1));
    }

    private static void wallThatWas() {
        Due.sentence("9: The wall: what it was.");
        PotVolumes x = Made.profiles(2);
        Due.answer("wall(0, 50)", 0, x.wall(0, 50));
        Due.answer("wall(1, 20)", 0, x.wall(1, 20));
        Due.answer("wall(0, 0)", 50, x.wall(0, 0));
        Due.answer("wall(0, 0)", 0, x.wall(0, 0));
        Due.answer("wall(1, 20)", 20, x.wall(1, 20));
        Made.addCorners(x, 1, 0, 50, 50, 50);
        Due.yes("cut(1, 40)", x.cut(1, 40));
        Due.answer("wall(1, 0) of a cut profile", 20, x.wall(1, 0));
    }

    private static void wallOfNoProfile() {
        Due.sentence("9: IndexOutOfBoundsException");
        PotVolumes x = Made.profiles(1);
        Made.noSuchProfile("wall(.., 5)", 1, profile -> x.wall(profile, 5));
        Made.noSuchProfile("wall(.., 51)", 1, profile -> x.wall(profile, 51));
        Due.answer("wall(0, 5)", 0, x.wall(0, 5));
    }

    private static void wallTooThinOrThick() {
        Due.sentence("9: IllegalArgumentException: it is not 0 .. 50.");
        PotVolumes x = Made.profiles(1);
        Due.answer("wall(0, 9)", 0, x.wall(0, 9));
        Made.notWithin("wall", 0, 50, thickness -> x.wall(0, thickness));
        Due.answer("wall(0, 0)", 9, x.wall(0, 0));
        Due.answer("wall(0, 50)", 0, x.wall(0, 50));
        Due.answer("wall(0, 1)", 50, x.wall(0, 1));
    }

    private static void unlikeOverAllHeights() {
        Due.sentence("10: the sum over heights 0 .. 400 of the difference of their radiuses");
        PotVolumes x = Made.profiles(3);
        Made.addCorners(x, 0, 0, 200, 400, 200);
        Made.addCorners(x, 1, 0, 199, 400, 199);
        Due.answer("unlike(0, 1)", 401, x.unlike(0, 1));
        Due.answer("unlike(1, 0)", 401, x.unlike(1, 0));
        Due.answer("unlike(0, 0)", 0, x.unlike(0, 0));
        Due.answer("unlike(0, 2)", 401 * 200, x.unlike(0, 2));
        Due.answer("wall(0, 50)", 0, x.wall(0, 50));
        Due.answer("the wall is no part of it", 401, x.unlike(0, 1));
        PotVolumes ends = Made.profiles(3);
        Made.addCorners(ends, 0, 0, 3);
        Made.addCorners(ends, 1, 400, 5);
        Due.answer("height 0 alone", 3, ends.unlike(0, 2));
        Due.answer("height 400 alone", 5, ends.unlike(1, 2));
        Due.answer("both ends", 8, ends.unlike(0, 1));
        PotVolumes rounded = Made.profiles(2);
        // Radiuses 0, 3, 6, 10 and 0, 1, 2, 3: each is rounded down ahead of the difference.
        Made.addCorners(rounded, 0, 0, 0, 3, 10);
        Made.addCorners(rounded, 1, 0, 0, 3, 3);
        Due.answer("unlike(0, 1)", 2 + 4 + 7, rounded.unlike(0, 1));
        PotVolumes jars = Made.profiles(2);
        Made.addCorners(jars, 0, 10, 20, 20, 25);
        Made.addCorners(jars, 1, 10, 20, 21, 9);
        Due.answer("unlike(0, 1)", 89, jars.unlike(0, 1));
        // Crossing lines: differences do not make up for one another.
        PotVolumes crossed = Made.profiles(2);
        Made.addCorners(crossed, 0, 0, 0, 2, 2);
        Made.addCorners(crossed, 1, 0, 2, 2, 0);
        Due.answer("unlike(0, 1)", 4, crossed.unlike(0, 1));
    }

    private static void unlikeWhereThereIsNone() {
        Due.sentence("10: (0 where there is none)");
        PotVolumes x = Made.profiles(4);
        Due.answer("two without corners", 0, x.unlike(0, 1));
        Made.addCorners(x, 0, 10, 4, 11, 4);
        Due.answer("one without corners", 8, x.unlike(0, 1));
        Due.answer("the other without corners", 8, x.unlike(1, 0));
        Made.addCorners(x, 2, 11, 3, 12, 3);
        Due.answer("they meet at one height", 4 + 1 + 3, x.unlike(0, 2));
        Made.addCorners(x, 3, 0, 0, 400, 0);
        Due.answer("a radius of 0 is as none", 8, x.unlike(0, 3));
    }

    private static void unlikeOfNoProfile() {
        Due.sentence("10: IndexOutOfBoundsException.");
        PotVolumes x = Made.profiles(2);
        Made.noSuchProfile("unlike(.., 1)", 2, profile -> x.unlike(profile, 1));
        Made.noSuchProfile("unlike(0, ..)", 2, profile -> x.unlike(0, profile));
        Made.noSuchProfile("unlike(.., ..)", 2, profile -> x.unlike(profile, profile));
    }

    private static void cutDropsCornersAbove() {
        Due.sentence("11: corners above it are dropped");
        PotVolumes x = Made.potOfTwelve();
        Due.yes("cut(0, 1)", x.cut(0, 1));
        Made.corners(x, 0, 0, 0, 1, 0);
        PotVolumes last = Made.potOfTwelve();
        Due.yes("cut(0, 109)", last.cut(0, 109));
        Made.corners(last, 0, 0, 0, 10, 1, 20, 2, 30, 3, 40, 4, 50, 5, 60, 6, 70, 7, 80, 8, 90, 9, 100, 10, 109, 10);
        PotVolumes flat = Made.pot(0, 4, 10, 8, 20, 8, 20, 3);
        Due.yes("below a flat top", flat.cut(0, 19));
        Made.corners(flat, 0, 0, 4, 10, 8, 19, 8);
    }

    private static void cutAddsACorner() {
        Due.sentence("11: and one at that height, with the radius there, is the last one");
        PotVolumes x = Made.pot(10, 20, 20, 25, 40, 0);
        Due.yes("cut(0, 13)", x.cut(0, 13));
        Made.corners(x, 0, 10, 20, 13, 21);
        PotVolumes foot = Made.pot(0, 0, 0, 5, 20, 9);
        Due.yes("cut(0, 1)", foot.cut(0, 1));
        Made.corners(foot, 0, 0, 0, 0, 5, 1, 5);
        Made.radiuses(foot, 0, 5, 1, 5, 2, PotVolumes.NONE);
        Made.volume(foot, 400, 25, 1);
    }

    private static void cutWhereOneHasThatHeight() {
        Due.sentence("11: if none has that height");
        PotVolumes x = Made.pot(10, 20, 21, 9, 30, 0);
        Due.yes("cut at a corner", x.cut(0, 21));
        Made.corners(x, 0, 10, 20, 21, 9);
        PotVolumes inwards = Made.pot(0, 5, 10, 9, 10, 5, 20, 9);
        Due.yes("cut at a flat piece inwards", inwards.cut(0, 10));
        Made.corners(inwards, 0, 0, 5, 10, 9, 10, 5);
        PotVolumes outwards = Made.pot(0, 5, 10, 5, 10, 9, 20, 9);
        Due.yes("cut at a flat piece outwards", outwards.cut(0, 10));
        Made.corners(outwards, 0, 0, 5, 10, 5, 10, 9);
        PotVolumes twelve = Made.potOfTwelve();
        Due.yes("cut at the eleventh corner", twelve.cut(0, 100));
        Made.corners(twelve, 0, 0, 0, 10, 1, 20, 2, 30, 3, 40, 4, 50, 5, 60, 6, 70, 7, 80, 8, 90, 9, 100, 10);
    }

    private static void cutNotAtOrBelowTheFirst() {
        Due.sentence("11: (not at or below the first corner");
        PotVolumes x = Made.pot(10, 20, 20, 25);
        for (int height : new int[] {10, 9, 0, -1, Integer.MIN_VALUE}) {
            Due.no("cut(0, " + height + ")", x.cut(0, height));
        }
        Made.corners(x, 0, 10, 20, 20, 25);
        Due.yes("cut(0, 11)", x.cut(0, 11));
        PotVolumes foot = Made.pot(0, 20, 0, 10, 20, 25);
        Due.no("cut at a flat foot", foot.cut(0, 0));
        Made.corners(foot, 0, 0, 20, 0, 10, 20, 25);
    }

    private static void cutNotAtOrAboveTheTop() {
        Due.sentence("11: nor at or above the top");
        PotVolumes x = Made.pot(10, 20, 20, 25);
        for (int height : new int[] {20, 21, 400, 401, Integer.MAX_VALUE}) {
            Due.no("cut(0, " + height + ")", x.cut(0, height));
        }
        Made.corners(x, 0, 10, 20, 20, 25);
        Due.yes("cut(0, 19)", x.cut(0, 19));
        PotVolumes flat = Made.pot(10, 20, 20, 25, 20, 0);
        Due.no("cut at a flat top", flat.cut(0, 20));
        Made.corners(flat, 0, 10, 20, 20, 25, 20, 0);
        Due.no("cut of one corner", Made.pot(10, 20).cut(0, 10));
        Due.no("cut of a flat piece", Made.pot(10, 20, 10, 30).cut(0, 10));
        Due.no("cut without corners", Made.pot().cut(0, 0));
        Due.no("cut without corners", Made.pot().cut(0, 200));
    }

    private static void cutNotASecondTime() {
        Due.sentence("11: nor a second time");
        PotVolumes x = Made.pot(10, 20, 40, 50);
        Due.no("a cut that cannot be", x.cut(0, 40));
        Due.yes("cut(0, 30)", x.cut(0, 30));
        for (int height : new int[] {30, 29, 20, 11, 10, 35}) {
            Due.no("cut(0, " + height + ") a second time", x.cut(0, height));
        }
        Made.corners(x, 0, 10, 20, 30, 40);
        PotVolumes atCorner = Made.pot(10, 20, 20, 30, 40, 50);
        Due.yes("cut at a corner", atCorner.cut(0, 20));
        Due.no("cut(0, 15) a second time", atCorner.cut(0, 15));
        Made.corners(atCorner, 0, 10, 20, 20, 30);
        PotVolumes two = Made.profiles(2);
        Made.addCorners(two, 0, 0, 5, 9, 5);
        Made.addCorners(two, 1, 0, 5, 9, 5);
        Due.yes("cut(0, 5)", two.cut(0, 5));
        Due.yes("cut(1, 5), the first time for this one", two.cut(1, 5));
    }

    private static void cutOfNoProfile() {
        Due.sentence("11: IndexOutOfBoundsException.");
        PotVolumes x = Made.pot(0, 4, 9, 4);
        Made.noSuchProfile("cut(.., 5)", 1, profile -> Due.bit(x.cut(profile, 5)));
        Made.noSuchProfile("cut(.., -1)", 1, profile -> Due.bit(x.cut(profile, -1)));
        Made.corners(x, 0, 0, 4, 9, 4);
    }

    private static void drawnMirrored() {
        Due.sentence("12: all corners mirrored, from the last one to the first");
        PotVolumes x = Made.pot(10, 20, 20, 25, 30, 7);
        Due.answer("drawn(0, 0, 0)", -7, x.drawn(0, 0, 0));
        Due.answer("drawn(0, 0, 1)", 30, x.drawn(0, 0, 1));
        Due.answer("drawn(0, 1, 0)", -25, x.drawn(0, 1, 0));
        Due.answer("drawn(0, 2, 0)", -20, x.drawn(0, 2, 0));
        Due.answer("drawn(0, 2, 1)", 10, x.drawn(0, 2, 1));
        // Corners on the axis are among the mirrored ones.
        Made.drawn(Made.pot(0, 0, 400, 0), 0, 400, 0, 0);
        Made.drawn(Made.pot(0, 0, 0, 200, 400, 200), -200, 400, -200, 0, 0, 0, 200, 0, 200, 400);
    }

    private static void drawnOffTheAxis() {
        Due.sentence("12: then all that do not lie on the axis, from the first to the last");
        Made.drawn(Made.pot(10, 20, 20, 25), -25, 20, -20, 10, 20, 10, 25, 20);
        Made.drawn(Made.pot(0, 0, 10, 1, 20, 0, 30, 200, 40, 0),
                0, 40, -200, 30, 0, 20, -1, 10, 0, 0, 1, 10, 200, 30);
        Made.drawn(Made.pot(7, 0), 0, 7);
        Made.drawn(Made.pot(7, 1), -1, 7, 1, 7);
        PotVolumes cut = Made.pot(0, 5, 20, 25, 30, 9, 40, 8);
        Due.yes("cut(0, 20)", cut.cut(0, 20));
        Made.drawn(cut, -25, 20, -5, 0, 5, 0, 25, 20);
        // The wall moves no corner to the axis.
        Made.drawn(Made.withWall(50, Made.pot(0, 5, 20, 25)), -25, 20, -5, 0, 5, 0, 25, 20);
    }

    private static void drawnCounted() {
        Due.sentence("12: k = -1: how many there are");
        Due.answer("of none", 0, Made.pot().drawn(0, -1, 0));
        Due.answer("of one on the axis", 1, Made.pot(7, 0).drawn(0, -1, 1));
        Due.answer("of one off it", 2, Made.pot(7, 1).drawn(0, -1, 0));
        Due.answer("of twelve, one of them on the axis", 23, Made.potOfTwelve().drawn(0, -1, 1));
        PotVolumes most = Made.pot(0, 1, 1, 1, 2, 1, 3, 1, 4, 1, 5, 1, 6, 1, 7, 1, 8, 1, 9, 1, 10, 1, 11, 200);
        Due.answer("of twelve off the axis", 24, most.drawn(0, -1, 0));
        Due.answer("the last of 24", 200, most.drawn(0, 23, 0));
        PotVolumes cut = Made.potOfTwelve();
        Due.yes("cut(0, 15)", cut.cut(0, 15));
        Due.answer("of those left", 5, cut.drawn(0, -1, 0));
    }

    private static void drawnOfNoProfile() {
        Due.sentence("12: IndexOutOfBoundsException: profile");
        PotVolumes x = Made.pot(3, 4);
        Made.noSuchProfile("drawn(.., 0, 0)", 1, profile -> x.drawn(profile, 0, 0));
        Made.noSuchProfile("drawn(.., -1, 1)", 1, profile -> x.drawn(profile, -1, 1));
    }

    private static void drawnNoPoint() {
        Due.sentence("12: IndexOutOfBoundsException: .. point");
        PotVolumes none = Made.pot();
        PotVolumes axis = Made.pot(3, 0);
        PotVolumes off = Made.pot(3, 4);
        PotVolumes twelve = Made.potOfTwelve();
        for (int what = 0; what <= 1; what++) {
            int w = what;
            Due.noIndex("the first of none", () -> none.drawn(0, 0, w));
            Due.noIndex("the second of one on the axis", () -> axis.drawn(0, 1, w));
            Due.noIndex("the third of one off it", () -> off.drawn(0, 2, w));
            for (int k : new int[] {-2, 23, 24, Integer.MIN_VALUE, Integer.MIN_VALUE + 11, Integer.MAX_VALUE}) {
                Due.noIndex("point " + k + " of 23", () -> twelve.drawn(0, k, w));
            }
        }
    }

    private static void drawnNeither() {
        Due.sentence("12: IndexOutOfBoundsException: .. or what is neither");
        PotVolumes x = Made.pot(3, 4);
        Made.neither("drawn(0, 0, ..)", what -> x.drawn(0, 0, what));
        Made.neither("drawn(0, 1, ..)", what -> x.drawn(0, 1, what));
        Made.neither("drawn(0, -1, ..)", what -> x.drawn(0, -1, what));
    }
}
