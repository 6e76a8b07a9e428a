/** Promises 19 to 21, sentence by sentence: each that names a boundary case has a test of its own. */
public final class SherdsTest {
    public static void main(String[] args) {
        allThousandths();
        sherdOfNoProfile();
        shareOutside();
        sherdAfterSixty();
        leastWholeRims();
        laidToTheFirstWithRoom();
        aNewOneIfThereIsNone();
        vesselsOfNoProfile();
        vesselsNeither();
        counted();
        countedNone();
        Due.end("SherdsTest");
    }

    private static void allThousandths() {
        Due.sentence("19: A sherd of a profile's rim, by thousandths of it: all of the profile's thousandths.");
        PotVolumes x = Made.profiles(6);
        Due.answer("sherd(0, 1)", 1, x.sherd(0, 1));
        Due.answer("sherd(5, 1000)", 1000, x.sherd(5, 1000));
        Due.answer("sherd(0, 1000)", 1001, x.sherd(0, 1000));
        Due.answer("sherd(5, 1)", 1001, x.sherd(5, 1));
        Due.answer("sherd(3, 7)", 7, x.sherd(3, 7));
        PotVolumes most = Made.profiles(1);
        for (int i = 1; i <= 60; i++) {
            Due.answer("sherd " + i + " of 1000", 1000 * i, most.sherd(0, 1000));
        }
    }

    private static void sherdOfNoProfile() {
        Due.sentence("19: IndexOutOfBoundsException.");
        PotVolumes x = Made.profiles(1);
        Made.noSuchProfile("sherd(.., 5)", 1, profile -> x.sherd(profile, 5));
        Made.noSuchProfile("sherd(.., 0)", 1, profile -> x.sherd(profile, 0));
        PotVolumes none = new PotVolumes();
        Made.noSuchProfile("sherd(.., 5)", 0, profile -> none.sherd(profile, 5));
        Due.answer("count(3)", 0, x.count(3));
        Due.answer("count(3)", 0, none.count(3));
    }

    private static void shareOutside() {
        Due.sentence("19: IllegalArgumentException: it is not 1 .. 1000.");
        PotVolumes x = Made.profiles(1);
        Made.notWithin("sherd(0, ..)", 1, 1000, share -> x.sherd(0, share));
        Due.noArgument("sherd(0, -1)", () -> x.sherd(0, -1));
        Due.answer("count(3)", 0, x.count(3));
        Due.answer("sherd(0, 1)", 1, x.sherd(0, 1));
        Due.answer("sherd(0, 1000)", 1001, x.sherd(0, 1000));
    }

    private static void sherdAfterSixty() {
        Due.sentence("19: IllegalStateException: there are 60 sherds.");
        PotVolumes x = Made.profiles(6);
        for (int i = 0; i < 60; i++) {
            Due.answer("sherd of " + i % 6, 10 * (i / 6 + 1), x.sherd(i % 6, 10));
        }
        for (int profile = 0; profile < 6; profile++) {
            int p = profile;
            Due.noState("a sherd after 60, of " + p, () -> x.sherd(p, 1));
        }
        Made.notWithin("a wrong sherd after 60", 1, 1000, share -> x.sherd(0, share));
        Made.noSuchProfile("a sherd after 60", 6, profile -> x.sherd(profile, 5));
        Due.answer("count(3)", 60, x.count(3));
        Made.vessels(x, 1, 1);
    }

    private static void leastWholeRims() {
        Due.sentence("20: by all thousandths (0): the least number of whole rims that has as many");
        byAll(0, Made.sherds());
        byAll(1, Made.sherds(1));
        byAll(1, Made.sherds(999));
        byAll(1, Made.sherds(1000));
        byAll(1, Made.sherds(999, 1));
        byAll(2, Made.sherds(1000, 1));
        byAll(2, Made.sherds(501, 501));
        byAll(2, Made.sherds(1000, 1000));
        // Of these two have room in one vessel in no way, and yet two rims have as many.
        byAll(2, Made.sherds(600, 600, 600));
        byAll(3, Made.sherds(1000, 1000, 1));
        PotVolumes x = Made.profiles(2);
        for (int i = 1; i <= 60; i++) {
            Due.answer("sherd " + i, 1000 * i, x.sherd(0, 1000));
        }
        byAll(60, x);
        Due.answer("of a profile without sherds", 0, x.vessels(1, 0));
    }

    private static void byAll(int due, PotVolumes x) {
        Due.answer("vessels(0, 0)", due, x.vessels(0, 0));
    }

    private static void laidToTheFirstWithRoom() {
        Due.sentence("20: each sherd, from the first told on, is laid to the first vessel in which it has room");
        bySherds(0, Made.sherds());
        // Room that is filled to the brim, and one thousandth less of it.
        bySherds(1, Made.sherds(400, 600));
        bySherds(2, Made.sherds(400, 601));
        bySherds(1, Made.sherds(999, 1));
        bySherds(2, Made.sherds(1000, 1));
        // To the first one, not to the last one told or the fullest one.
        bySherds(2, Made.sherds(300, 900, 300));
        bySherds(3, Made.sherds(700, 800, 200, 300));
        bySherds(2, Made.sherds(700, 800, 200, 200, 100));
        // From the first told on, not from the largest.
        bySherds(3, Made.sherds(400, 400, 600, 600));
        bySherds(2, Made.sherds(600, 600, 400, 400));
        // Sherds of another profile lie in none of its vessels.
        PotVolumes two = Made.profiles(2);
        Due.answer("sherd(0, 600)", 600, two.sherd(0, 600));
        Due.answer("sherd(1, 300)", 300, two.sherd(1, 300));
        Due.answer("sherd(0, 400)", 1000, two.sherd(0, 400));
        Due.answer("sherd(1, 700)", 1000, two.sherd(1, 700));
        bySherds(1, two);
        Due.answer("vessels(1, 1)", 1, two.vessels(1, 1));
        bySherds(1, two);
    }

    private static void aNewOneIfThereIsNone() {
        Due.sentence("20: a new one if there is none");
        bySherds(1, Made.sherds(1));
        bySherds(1, Made.sherds(1000));
        bySherds(2, Made.sherds(501, 500));
        bySherds(3, Made.sherds(501, 501, 501));
        PotVolumes x = Made.profiles(1);
        for (int i = 1; i <= 60; i++) {
            Due.answer("sherd " + i, 501 * i, x.sherd(0, 501));
            bySherds(i, x);
        }
        PotVolumes halves = Made.profiles(1);
        for (int i = 1; i <= 60; i++) {
            Due.answer("sherd " + i, 500 * i, halves.sherd(0, 500));
        }
        bySherds(30, halves);
        PotVolumes small = Made.profiles(1);
        for (int i = 1; i <= 60; i++) {
            Due.answer("sherd " + i, 16 * i, small.sherd(0, 16));
        }
        bySherds(1, small);
    }

    private static void bySherds(int due, PotVolumes x) {
        Due.answer("vessels(0, 1)", due, x.vessels(0, 1));
    }

    private static void vesselsOfNoProfile() {
        Due.sentence("20: IndexOutOfBoundsException: profile");
        PotVolumes x = Made.sherds(10);
        Made.noSuchProfile("vessels(.., 0)", 1, profile -> x.vessels(profile, 0));
        Made.noSuchProfile("vessels(.., 1)", 1, profile -> x.vessels(profile, 1));
    }

    private static void vesselsNeither() {
        Due.sentence("20: IndexOutOfBoundsException: .. or what is neither");
        PotVolumes x = Made.sherds(10);
        Made.neither("vessels(0, ..)", how -> x.vessels(0, how));
        PotVolumes none = Made.sherds();
        Made.neither("vessels(0, ..)", how -> none.vessels(0, how));
    }

    private static void counted() {
        Due.sentence("21: 0 profiles, 1 bounds, 2 places, 3 sherds.");
        PotVolumes x = Made.profiles(6);
        Due.answer("count(1)", 0, x.count(1));
        Due.answer("count(2)", 0, x.count(2));
        Due.answer("count(3)", 0, x.count(3));
        Made.bounds(x, 1, 2, 3, 4, 5, 6, 7, 8, 9, 10);
        for (int i = 1; i <= 20; i++) {
            Due.answer("rim", i, x.rim(i, -i));
        }
        for (int i = 0; i < 60; i++) {
            x.sherd(i % 6, 1000);
        }
        Due.answer("count(0)", 6, x.count(0));
        Due.answer("count(1)", 10, x.count(1));
        Due.answer("count(2)", 20, x.count(2));
        Due.answer("count(3)", 60, x.count(3));
    }

    private static void countedNone() {
        Due.sentence("21: IndexOutOfBoundsException: none of these.");
        PotVolumes x = Made.profiles(2);
        for (int what : new int[] {-1, 4, 5, Integer.MIN_VALUE, Integer.MAX_VALUE}) {
            Due.noIndex("count(" + what + ")", () -> x.count(what));
        }
    }
}
