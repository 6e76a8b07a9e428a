/** Promises 19 to 21: sherds, the vessels that they make, and what is counted. */
public final class SherdsTest {
    public static void main(String[] args) {
        shares();
        sharesRefused();
        sixtySherds();
        vesselsByAll();
        vesselsBySherds();
        vesselsRefused();
        counts();
        Due.end("SherdsTest");
    }

    private static PotVolumes sherdsOf(int... shares) {
        PotVolumes x = new PotVolumes();
        x.profile();
        int sum = 0;
        for (int share : shares) {
            sum += share;
            Due.answer("sherd(0, " + share + ")", sum, x.sherd(0, share));
        }
        return x;
    }

    private static void vessels(PotVolumes x, int byAll, int bySherds) {
        Due.answer("vessels(0, 0)", byAll, x.vessels(0, 0));
        Due.answer("vessels(0, 1)", bySherds, x.vessels(0, 1));
    }

    private static void shares() {
        PotVolumes x = new PotVolumes();
        x.profile();
        x.profile();
        Due.answer("sherd(0, 1)", 1, x.sherd(0, 1));
        Due.answer("sherd(1, 1000)", 1000, x.sherd(1, 1000));
        Due.answer("sherd(0, 400)", 401, x.sherd(0, 400));
        Due.answer("sherd(1, 2)", 1002, x.sherd(1, 2));
        Due.answer("count(3)", 4, x.count(3));
        Due.answer("vessels(0, 0)", 1, x.vessels(0, 0));
        Due.answer("vessels(1, 0)", 2, x.vessels(1, 0));
        Due.answer("vessels(0, 1)", 1, x.vessels(0, 1));
        Due.answer("vessels(1, 1)", 2, x.vessels(1, 1));
    }

    private static void sharesRefused() {
        PotVolumes x = sherdsOf(10);
        for (int profile : new int[] {-1, 1, 6, Integer.MIN_VALUE, Integer.MAX_VALUE}) {
            Due.noIndex("sherd(" + profile + ", 5)", () -> x.sherd(profile, 5));
            Due.noIndex("the profile comes before the share", () -> x.sherd(profile, 0));
        }
        for (int share : new int[] {0, -1, 1001, Integer.MIN_VALUE, Integer.MAX_VALUE}) {
            Due.noArgument("sherd(0, " + share + ")", () -> x.sherd(0, share));
        }
        Due.answer("count(3)", 1, x.count(3));
        Due.answer("sherd(0, 5)", 15, x.sherd(0, 5));
    }

    private static void sixtySherds() {
        PotVolumes x = new PotVolumes();
        x.profile();
        x.profile();
        for (int i = 0; i < 60; i++) {
            Due.answer("sherd", 1000 * (i / 2 + 1), x.sherd(i % 2, 1000));
        }
        Due.noState("a sherd after 60", () -> x.sherd(0, 1));
        Due.noArgument("the share comes before the 60", () -> x.sherd(0, 0));
        Due.noIndex("the profile comes before the 60", () -> x.sherd(2, 1));
        Due.answer("count(3)", 60, x.count(3));
        Due.answer("vessels(0, 0)", 30, x.vessels(0, 0));
        Due.answer("vessels(1, 1)", 30, x.vessels(1, 1));
        PotVolumes whole = new PotVolumes();
        whole.profile();
        for (int i = 0; i < 60; i++) {
            whole.sherd(0, 501);
        }
        vessels(whole, 31, 60);
    }

    private static void vesselsByAll() {
        vessels(sherdsOf(), 0, 0);
        vessels(sherdsOf(1), 1, 1);
        vessels(sherdsOf(1000), 1, 1);
        vessels(sherdsOf(1000, 1), 2, 2);
        vessels(sherdsOf(999, 1), 1, 1);
        vessels(sherdsOf(600, 600, 600), 2, 3);
    }

    private static void vesselsBySherds() {
        vessels(sherdsOf(400, 700, 300, 300, 300), 2, 2);
        // Sorted first they would fit two vessels; in the order told they need three.
        vessels(sherdsOf(400, 400, 600, 600), 2, 3);
        // The last one finds room in the first vessel alone, behind a later one that has none.
        vessels(sherdsOf(500, 900, 500), 2, 2);
        // To the fullest that has room, 200 would go to the second, and 300 would still have room.
        vessels(sherdsOf(700, 800, 200, 300), 2, 3);
        // To the newest alone, 300 would need a third one.
        vessels(sherdsOf(300, 900, 300), 2, 2);
        // Nothing of a count is left for the next one.
        PotVolumes x = sherdsOf(500, 600);
        vessels(x, 2, 2);
        vessels(x, 2, 2);
        x.sherd(0, 500);
        vessels(x, 2, 2);
    }

    private static void vesselsRefused() {
        PotVolumes x = sherdsOf(10);
        for (int how : new int[] {-1, 2, Integer.MIN_VALUE, Integer.MAX_VALUE}) {
            Due.noIndex("vessels(0, " + how + ")", () -> x.vessels(0, how));
        }
        for (int profile : new int[] {-1, 1, 6, Integer.MIN_VALUE, Integer.MAX_VALUE}) {
            Due.noIndex("vessels(" + profile + ", 0)", () -> x.vessels(profile, 0));
            Due.noIndex("vessels(" + profile + ", 1)", () -> x.vessels(profile, 1));
        }
    }

    private static void counts() {
        PotVolumes x = new PotVolumes();
        x.profile();
        x.profile();
        x.bound(3);
        x.bound(3);
        x.bound(3);
        x.rim(0, 0);
        for (int i = 0; i < 4; i++) {
            x.sherd(1, 5);
        }
        Due.answer("count(0)", 2, x.count(0));
        Due.answer("count(1)", 3, x.count(1));
        Due.answer("count(2)", 1, x.count(2));
        Due.answer("count(3)", 4, x.count(3));
        for (int what : new int[] {-1, 4, Integer.MIN_VALUE, Integer.MAX_VALUE}) {
            Due.noIndex("count(" + what + ")", () -> x.count(what));
        }
    }
}
