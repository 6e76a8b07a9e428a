/** Promises 1 to 5 and 10 to 12: profiles, their corners, radiuses, likeness, cuts and drawings. */
public final class ProfilesTest {
    private static final int[] WRONG_CHOICES = {-1, 2, Integer.MIN_VALUE, Integer.MAX_VALUE};
    private static final int[] WRONG_PROFILES = {-1, 1, 5, 6, Integer.MIN_VALUE, Integer.MAX_VALUE};

    public static void main(String[] args) {
        newObject();
        profiles();
        cornersThatCanBe();
        cornersRefused();
        twelveCorners();
        cornersTold();
        radiuses();
        likeness();
        cuts();
        cutsOfRows();
        drawings();
        Due.end("ProfilesTest");
    }

    static PotVolumes potOf(int... corners) {
        PotVolumes x = new PotVolumes();
        x.profile();
        addCorners(x, 0, corners);
        return x;
    }

    private static void addCorners(PotVolumes x, int profile, int... corners) {
        for (int i = 0; i < corners.length; i += 2) {
            Due.yes("corner " + i / 2, x.corner(profile, corners[i], corners[i + 1]));
        }
    }

    private static void corners(PotVolumes x, int profile, int... due) {
        Due.answer("at(" + profile + ", -1, 0)", due.length / 2, x.at(profile, -1, 0));
        Due.answer("at(" + profile + ", -1, 1)", due.length / 2, x.at(profile, -1, 1));
        for (int i = 0; i < due.length; i++) {
            Due.answer("at(" + profile + ", " + i / 2 + ", " + i % 2 + ")", due[i], x.at(profile, i / 2, i % 2));
        }
        Due.noIndex("at behind the last corner", () -> x.at(profile, due.length / 2, 0));
    }

    private static void newObject() {
        PotVolumes x = new PotVolumes();
        for (int what = 0; what < 4; what++) {
            Due.answer("count(" + what + ")", 0, x.count(what));
        }
        Due.noIndex("at without profiles", () -> x.at(0, -1, 0));
        Due.noIndex("radius without profiles", () -> x.radius(0, 0));
        Due.answer("clear()", 0, x.clear());
        Due.answer("NONE", -1, PotVolumes.NONE);
        PotVolumes other = new PotVolumes();
        x.profile();
        Due.answer("count(0) of another object", 0, other.count(0));
    }

    private static void profiles() {
        PotVolumes x = new PotVolumes();
        for (int i = 0; i < 6; i++) {
            Due.answer("profile()", i, x.profile());
            Due.answer("at(" + i + ", -1, 0)", 0, x.at(i, -1, 0));
        }
        Due.noState("a seventh profile", () -> x.profile());
        Due.noState("a seventh profile again", () -> x.profile());
        Due.answer("count(0)", 6, x.count(0));
        Due.noIndex("at(6, -1, 0)", () -> x.at(6, -1, 0));
        addCorners(x, 5, 0, 7);
        corners(x, 5, 0, 7);
        corners(x, 4);
    }

    private static void cornersThatCanBe() {
        PotVolumes x = potOf(0, 0, 0, 30);
        Due.no("a third one of the same height", x.corner(0, 0, 40));
        Due.no("the same one as a third", x.corner(0, 0, 30));
        Due.yes("a higher one", x.corner(0, 60, 60));
        Due.no("a lower one", x.corner(0, 59, 60));
        Due.no("the same one", x.corner(0, 60, 60));
        Due.yes("a flat piece inwards", x.corner(0, 60, 20));
        Due.no("back on a flat piece", x.corner(0, 60, 60));
        Due.yes("the highest one", x.corner(0, 400, 200));
        Due.yes("another of the highest", x.corner(0, 400, 0));
        corners(x, 0, 0, 0, 0, 30, 60, 60, 60, 20, 400, 200, 400, 0);
        PotVolumes first = potOf(400, 200);
        Due.no("one below the first", first.corner(0, 399, 200));
        corners(first, 0, 400, 200);
    }

    private static void cornersRefused() {
        PotVolumes x = potOf(10, 20);
        for (int profile : WRONG_PROFILES) {
            Due.noIndex("corner of profile " + profile, () -> bit(x.corner(profile, 20, 20)));
            Due.noIndex("the profile comes before the height", () -> bit(x.corner(profile, -1, 201)));
        }
        for (int height : new int[] {-1, 401, Integer.MIN_VALUE, Integer.MAX_VALUE}) {
            Due.noArgument("corner of height " + height, () -> bit(x.corner(0, height, 20)));
        }
        for (int radius : new int[] {-1, 201, Integer.MIN_VALUE, Integer.MAX_VALUE}) {
            Due.noArgument("corner of radius " + radius, () -> bit(x.corner(0, 20, radius)));
        }
        corners(x, 0, 10, 20);
    }

    private static void twelveCorners() {
        PotVolumes x = new PotVolumes();
        x.profile();
        for (int k = 0; k < 12; k++) {
            Due.yes("corner " + k, x.corner(0, 10 * k, k));
        }
        Due.noState("a thirteenth corner", () -> bit(x.corner(0, 200, 1)));
        Due.noState("a thirteenth corner that could not be", () -> bit(x.corner(0, 0, 1)));
        Due.noArgument("the height comes before the twelve", () -> bit(x.corner(0, 401, 1)));
        Due.noArgument("the radius comes before the twelve", () -> bit(x.corner(0, 200, -1)));
        Due.answer("at(0, -1, 0)", 12, x.at(0, -1, 0));
        Due.answer("at(0, 11, 0)", 110, x.at(0, 11, 0));
        Due.noIndex("at(0, 12, 0)", () -> x.at(0, 12, 0));
    }

    private static void cornersTold() {
        PotVolumes x = potOf(10, 20, 30, 40);
        corners(x, 0, 10, 20, 30, 40);
        for (int profile : WRONG_PROFILES) {
            Due.noIndex("at of profile " + profile, () -> x.at(profile, -1, 0));
        }
        for (int what : WRONG_CHOICES) {
            Due.noIndex("at(0, 0, " + what + ")", () -> x.at(0, 0, what));
            Due.noIndex("at(0, -1, " + what + ")", () -> x.at(0, -1, what));
        }
        for (int k : new int[] {-2, 2, 12, Integer.MIN_VALUE, Integer.MAX_VALUE}) {
            Due.noIndex("at(0, " + k + ", 0)", () -> x.at(0, k, 0));
        }
    }

    private static void radiuses(PotVolumes x, int... due) {
        for (int i = 0; i < due.length; i += 2) {
            Due.answer("radius(0, " + due[i] + ")", due[i + 1], x.radius(0, due[i]));
        }
    }

    private static void radiuses() {
        radiuses(potOf(), 0, -1, 400, -1);
        radiuses(potOf(5, 9), 4, -1, 5, 9, 6, -1);
        radiuses(potOf(10, 10, 13, 0), 9, -1, 10, 10, 11, 6, 12, 3, 13, 0, 14, -1);
        radiuses(potOf(0, 0, 3, 10), -1, -1, 0, 0, 1, 3, 2, 6, 3, 10, 4, -1);
        radiuses(potOf(0, 40, 0, 30, 10, 20), 0, 40, 1, 29, 10, 20);
        radiuses(potOf(0, 30, 0, 40, 10, 20), 0, 40, 1, 38, 10, 20);
        radiuses(potOf(0, 8, 10, 6, 10, 9, 20, 1), 9, 6, 10, 9, 11, 8);
        radiuses(potOf(0, 8, 10, 6, 10, 9), 10, 9, 11, -1);
        radiuses(potOf(0, 8, 10, 9, 10, 6), 10, 9);
        radiuses(potOf(0, 0, 400, 200), 399, 199, 400, 200, Integer.MAX_VALUE, -1, Integer.MIN_VALUE, -1);
        PotVolumes x = potOf(0, 5);
        for (int profile : WRONG_PROFILES) {
            Due.noIndex("radius of profile " + profile, () -> x.radius(profile, 0));
        }
        x.wall(0, 3);
        radiuses(x, 0, 5);
    }

    private static void likeness() {
        PotVolumes x = potOf(10, 20, 20, 25);
        x.profile();
        Due.answer("unlike one without corners", 20 + 20 + 21 + 21 + 22 + 22 + 23 + 23 + 24 + 24 + 25, x.unlike(0, 1));
        addCorners(x, 1, 10, 20, 21, 9);
        Due.answer("unlike(0, 1)", 89, x.unlike(0, 1));
        Due.answer("unlike(1, 0)", 89, x.unlike(1, 0));
        Due.answer("unlike(1, 1)", 0, x.unlike(1, 1));
        x.profile();
        x.profile();
        addCorners(x, 2, 0, 200, 400, 200);
        Due.answer("heights 0 and 400 are among them", 401 * 200, x.unlike(2, 3));
        addCorners(x, 3, 400, 3);
        Due.answer("one corner at the top", 401 * 200 - 3, x.unlike(3, 2));
        for (int profile : new int[] {-1, 4, 6, Integer.MIN_VALUE, Integer.MAX_VALUE}) {
            Due.noIndex("unlike(0, " + profile + ")", () -> x.unlike(0, profile));
            Due.noIndex("unlike(" + profile + ", 0)", () -> x.unlike(profile, 0));
        }
    }

    private static void cuts() {
        PotVolumes x = potOf();
        Due.no("cut without corners", x.cut(0, 10));
        addCorners(x, 0, 10, 20);
        Due.no("cut of one corner", x.cut(0, 10));
        addCorners(x, 0, 20, 25, 30, 7);
        for (int height : new int[] {10, 9, -1, 30, 31, 400, Integer.MIN_VALUE, Integer.MAX_VALUE}) {
            Due.no("cut(0, " + height + ")", x.cut(0, height));
        }
        corners(x, 0, 10, 20, 20, 25, 30, 7);
        addCorners(x, 0, 40, 7);
        Due.yes("cut(0, 13)", x.cut(0, 13));
        corners(x, 0, 10, 20, 13, 21);
        Due.no("cut a second time", x.cut(0, 11));
        corners(x, 0, 10, 20, 13, 21);
        Due.noState("a corner of a cut profile", () -> bit(x.corner(0, 30, 5)));
        Due.noState("a corner that could not be, of a cut profile", () -> bit(x.corner(0, 0, 5)));
        Due.noArgument("the height comes before the cut", () -> bit(x.corner(0, 401, 5)));
        corners(x, 0, 10, 20, 13, 21);
        for (int profile : WRONG_PROFILES) {
            Due.noIndex("cut of profile " + profile, () -> bit(x.cut(profile, 11)));
        }
    }

    private static void cutsOfRows() {
        PotVolumes atCorner = potOf(10, 20, 21, 9, 30, 0);
        Due.yes("cut at a corner", atCorner.cut(0, 21));
        corners(atCorner, 0, 10, 20, 21, 9);
        Due.no("and a second time", atCorner.cut(0, 15));
        PotVolumes atFlat = potOf(0, 5, 10, 5, 10, 9, 20, 9, 20, 3);
        Due.yes("cut at a flat piece", atFlat.cut(0, 10));
        corners(atFlat, 0, 0, 5, 10, 5, 10, 9);
        PotVolumes flatTop = potOf(0, 5, 20, 9, 20, 3);
        Due.no("cut at a flat top", flatTop.cut(0, 20));
        Due.yes("cut below a flat top", flatTop.cut(0, 19));
        corners(flatTop, 0, 0, 5, 19, 8);
        PotVolumes flatFoot = potOf(0, 0, 0, 5, 20, 9);
        Due.no("cut at a flat foot", flatFoot.cut(0, 0));
        Due.yes("cut above a flat foot", flatFoot.cut(0, 1));
        corners(flatFoot, 0, 0, 0, 0, 5, 1, 5);
        int[] twelve = new int[24];
        for (int k = 0; k < 12; k++) {
            twelve[2 * k] = 10 * k;
            twelve[2 * k + 1] = k;
        }
        PotVolumes full = potOf(twelve);
        Due.yes("cut of twelve", full.cut(0, 109));
        twelve[22] = 109;
        twelve[23] = 10;
        corners(full, 0, twelve);
        Due.noState("a corner of twelve that were cut", () -> bit(full.corner(0, 200, 5)));
    }

    private static void drawn(PotVolumes x, int... due) {
        int points = due.length / 2;
        Due.answer("drawn(0, -1, 0)", points, x.drawn(0, -1, 0));
        Due.answer("drawn(0, -1, 1)", points, x.drawn(0, -1, 1));
        for (int i = 0; i < due.length; i++) {
            Due.answer("drawn(0, " + i / 2 + ", " + i % 2 + ")", due[i], x.drawn(0, i / 2, i % 2));
        }
        for (int k : new int[] {-2, points, points + 1, 24, Integer.MIN_VALUE, Integer.MAX_VALUE}) {
            Due.noIndex("drawn(0, " + k + ", 0)", () -> x.drawn(0, k, 0));
            Due.noIndex("drawn(0, " + k + ", 1)", () -> x.drawn(0, k, 1));
        }
        for (int what : WRONG_CHOICES) {
            Due.noIndex("drawn(0, 0, " + what + ")", () -> x.drawn(0, 0, what));
            Due.noIndex("drawn(0, -1, " + what + ")", () -> x.drawn(0, -1, what));
        }
        for (int profile : WRONG_PROFILES) {
            Due.noIndex("drawn of profile " + profile, () -> x.drawn(profile, -1, 0));
        }
    }

    private static void drawings() {
        drawn(potOf());
        drawn(potOf(7, 0), 0, 7);
        drawn(potOf(10, 20, 20, 25), -25, 20, -20, 10, 20, 10, 25, 20);
        drawn(potOf(0, 0, 0, 30, 60, 0, 90, 4, 91, 0),
                0, 91, -4, 90, 0, 60, -30, 0, 0, 0, 30, 0, 4, 90);
        PotVolumes x = potOf(0, 5, 20, 25);
        x.wall(0, 5);
        drawn(x, -25, 20, -5, 0, 5, 0, 25, 20);
        x.cut(0, 3);
        drawn(x, -8, 3, -5, 0, 5, 0, 8, 3);
        PotVolumes dropped = potOf(0, 5, 20, 25, 30, 9, 40, 8);
        dropped.cut(0, 20);
        drawn(dropped, -25, 20, -5, 0, 5, 0, 25, 20);
    }

    private static long bit(boolean b) {
        return b ? 1 : 0;
    }
}
