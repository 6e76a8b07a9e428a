/** Promises 6 to 9, 13 and 14: volumes, what is held, its enclosing, walls, bounds and sizes. */
public final class VolumesTest {
    private static final int[] WRONG_CHOICES = {-1, 2, Integer.MIN_VALUE, Integer.MAX_VALUE};
    private static final int[] WRONG_PROFILES = {-1, 1, 5, 6, Integer.MIN_VALUE, Integer.MAX_VALUE};

    public static void main(String[] args) {
        volumes();
        volumesRefused();
        held();
        heldWithinWideSpans();
        enclosings();
        walls();
        bounds();
        sizes();
        Due.end("VolumesTest");
    }

    private static PotVolumes potOf(int... corners) {
        PotVolumes x = new PotVolumes();
        x.profile();
        for (int i = 0; i < corners.length; i += 2) {
            Due.yes("corner " + i / 2, x.corner(0, corners[i], corners[i + 1]));
        }
        return x;
    }

    private static void volume(PotVolumes x, int height, long above, long below) {
        Due.answer("volume(0, " + height + ", 0)", above, x.volume(0, height, 0));
        Due.answer("volume(0, " + height + ", 1)", below, x.volume(0, height, 1));
    }

    private static void holds(PotVolumes x, int height, long above, long below) {
        Due.answer("holds(0, " + height + ", 0)", above, x.holds(0, height, 0));
        Due.answer("holds(0, " + height + ", 1)", below, x.holds(0, height, 1));
    }

    private static void volumes() {
        volume(potOf(), 50, 0, 1);
        volume(potOf(5, 5), 50, 0, 1);
        PotVolumes drum = potOf(10, 10, 30, 10);
        volume(drum, 10, 0, 1);
        volume(drum, 9, 0, 1);
        volume(drum, Integer.MIN_VALUE, 0, 1);
        volume(drum, 11, 100, 1);
        volume(drum, 30, 2000, 1);
        volume(drum, 31, 2000, 1);
        volume(drum, Integer.MAX_VALUE, 2000, 1);
        PotVolumes cone = potOf(0, 0, 3, 1);
        volume(cone, 1, 1, 27);
        volume(cone, 2, 8, 27);
        volume(cone, 3, 1, 1);
        PotVolumes flat = potOf(0, 0, 0, 10, 10, 10, 10, 5, 20, 5, 20, 0);
        volume(flat, 0, 0, 1);
        volume(flat, 10, 1000, 1);
        volume(flat, 20, 1250, 1);
        volume(potOf(0, 0, 100, 0), 100, 0, 1);
        volume(potOf(0, 200, 400, 200), 400, 16000000, 1);
        PotVolumes wide = potOf(0, 200, 199, 7, 400, 200);
        volume(wide, 333, 97636517, 27);
        wide.wall(0, 50);
        volume(wide, 333, 97636517, 27);
        PotVolumes cut = potOf(10, 20, 20, 25);
        cut.cut(0, 13);
        volume(cut, 400, 1261, 1);
    }

    private static void volumesRefused() {
        PotVolumes x = potOf(0, 5, 9, 5);
        for (int profile : WRONG_PROFILES) {
            Due.noIndex("volume of profile " + profile, () -> x.volume(profile, 5, 0));
            Due.noIndex("holds of profile " + profile, () -> x.holds(profile, 5, 0));
            Due.noIndex("enclosed of profile " + profile, () -> x.enclosed(profile, 0));
            Due.noIndex("size of profile " + profile, () -> x.size(profile));
        }
        for (int part : WRONG_CHOICES) {
            Due.noIndex("volume(0, 5, " + part + ")", () -> x.volume(0, 5, part));
            Due.noIndex("holds(0, 5, " + part + ")", () -> x.holds(0, 5, part));
            Due.noIndex("enclosed(0, " + part + ")", () -> x.enclosed(0, part));
        }
    }

    private static void held() {
        holds(potOf(), 50, 0, 1);
        PotVolumes drum = potOf(10, 10, 30, 10);
        holds(drum, 30, 2000, 1);
        drum.wall(0, 2);
        holds(drum, 12, 0, 1);
        holds(drum, 11, 0, 1);
        holds(drum, Integer.MIN_VALUE, 0, 1);
        holds(drum, 13, 64, 1);
        holds(drum, 30, 18 * 64, 1);
        holds(drum, 31, 18 * 64, 1);
        holds(drum, Integer.MAX_VALUE, 18 * 64, 1);
        drum.wall(0, 10);
        holds(drum, 30, 0, 1);
        drum.wall(0, 50);
        holds(drum, 400, 0, 1);
        PotVolumes low = potOf(0, 100, 20, 100);
        low.wall(0, 20);
        holds(low, 400, 0, 1);
        low.wall(0, 19);
        holds(low, 400, 81 * 81, 1);
        // A radius below the wall ends at 0 at its corner, and the line goes on from there.
        PotVolumes bowl = potOf(0, 0, 6, 12);
        bowl.wall(0, 3);
        holds(bowl, 6, 567, 4);
    }

    private static void heldWithinWideSpans() {
        PotVolumes x = potOf(5, 0, 7, 50, 60, 53, 60, 20, 131, 90);
        holds(x, 100, 1061440969L, 5041);
        x.wall(0, 3);
        holds(x, 100, 7714921676872L, 42480507);
        holds(x, 131, 2894447015L, 8427);
        x.wall(0, 30);
        holds(x, 100, 391713896275L, 14160169);
        x.wall(0, 50);
        holds(x, 100, 289378552165L, 42480507);
        holds(x, 131, 319446965, 8427);
        PotVolumes y = potOf(0, 200, 199, 157, 400, 199);
        y.wall(0, 1);
        holds(y, 399, 6692124941924744L, 533306667);
        holds(y, 400, 498478550508L, 39601);
    }

    private static void enclosed(PotVolumes x, long low, long high) {
        Due.answer("enclosed(0, 0)", low, x.enclosed(0, 0));
        Due.answer("enclosed(0, 1)", high, x.enclosed(0, 1));
    }

    private static void enclosings() {
        enclosed(potOf(), 0, 0);
        enclosed(potOf(0, 0, 10, 0), 0, 0);
        enclosed(potOf(0, 1, 1, 1), 3, 4);
        enclosed(potOf(0, 0, 1, 1), 1, 2);
        enclosed(potOf(0, 200, 400, 200), 50265482, 50265483);
        // 20000000 / 3 times 3.14159265 is whole, times 3.14159266 is not.
        enclosed(potOf(0, 200, 100, 200, 300, 0), 20943951, 20943952);
        // 9653297 / 3 times 3.14159265 is below 10108909, times 3.14159266 it is above by less than 1 / 100000000.
        enclosed(potOf(0, 200, 5, 19, 289, 172), 10108908, 10108910);
        // 15680000 times 3.14159266 is below 49260173, times 3.14159267 it would be above.
        enclosed(potOf(0, 200, 392, 200), 49260172, 49260173);
        PotVolumes x = potOf(0, 0, 0, 30, 60, 60, 90, 0);
        enclosed(x, 508938, 508939);
        x.wall(0, 7);
        enclosed(x, 361078, 361079);
        x.cut(0, 3);
        enclosed(x, 0, 0);
    }

    private static void walls() {
        PotVolumes x = potOf(0, 100, 100, 100);
        x.profile();
        Due.answer("wall(0, 50)", 0, x.wall(0, 50));
        Due.answer("wall(0, 0)", 50, x.wall(0, 0));
        Due.answer("wall(0, 7)", 0, x.wall(0, 7));
        Due.answer("wall(1, 8)", 0, x.wall(1, 8));
        for (int thickness : new int[] {-1, 51, Integer.MIN_VALUE, Integer.MAX_VALUE}) {
            Due.noArgument("wall(0, " + thickness + ")", () -> x.wall(0, thickness));
            Due.noIndex("the profile comes before the wall", () -> x.wall(2, thickness));
        }
        for (int profile : new int[] {-1, 2, 6, Integer.MIN_VALUE, Integer.MAX_VALUE}) {
            Due.noIndex("wall of profile " + profile, () -> x.wall(profile, 1));
        }
        Due.answer("wall(0, 7)", 7, x.wall(0, 7));
        Due.answer("wall(1, 7)", 8, x.wall(1, 7));
        x.cut(0, 50);
        Due.answer("wall(0, 3) of a cut profile", 7, x.wall(0, 3));
    }

    private static void bounds() {
        PotVolumes x = potOf();
        for (int v : new int[] {-1, 1000000001, Integer.MIN_VALUE, Integer.MAX_VALUE}) {
            Due.noArgument("bound(" + v + ")", () -> x.bound(v));
        }
        Due.answer("count(1)", 0, x.count(1));
        Due.answer("bound(0)", 1, x.bound(0));
        Due.answer("bound(1000000000)", 2, x.bound(1000000000));
        for (int i = 3; i <= 10; i++) {
            Due.answer("bound(5)", i, x.bound(5));
        }
        Due.noState("an eleventh bound", () -> x.bound(5));
        Due.noArgument("the number comes before the ten", () -> x.bound(-1));
        Due.answer("count(1)", 10, x.count(1));
        Due.answer("size of a pot that holds nothing", 1, x.size(0));
    }

    private static void sizes() {
        PotVolumes x = potOf(0, 0, 0, 30, 60, 60, 90, 0);
        Due.answer("size without bounds", 0, x.size(0));
        x.bound(508938);
        Due.answer("a bound that is what it holds", 1, x.size(0));
        x.bound(508939);
        Due.answer("a bound just above", 1, x.size(0));
        x.bound(361078);
        x.bound(0);
        x.bound(508938);
        x.bound(1000000000);
        Due.answer("bounds in any order, one of them twice", 4, x.size(0));
        x.wall(0, 7);
        Due.answer("what it holds within its wall", 2, x.size(0));
        x.wall(0, 8);
        Due.answer("within a thicker one", 1, x.size(0));
    }
}
