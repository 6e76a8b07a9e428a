/** Objects that the project's tests begin with, and the looks at them that several tests take. */
final class Made {
    static final int[] WRONG_CHOICES = {-1, 2, 3, Integer.MIN_VALUE, Integer.MAX_VALUE};

    private Made() {
    }

    /** One profile, with corners told as height, radius, height, radius .. */
    static PotVolumes pot(int... corners) {
        PotVolumes x = new PotVolumes();
        Due.answer("profile()", 0, x.profile());
        addCorners(x, 0, corners);
        return x;
    }

    /** One profile of twelve corners: heights 0, 10 .. 110, radiuses 0 .. 11. */
    static PotVolumes potOfTwelve() {
        return pot(0, 0, 10, 1, 20, 2, 30, 3, 40, 4, 50, 5, 60, 6, 70, 7, 80, 8, 90, 9, 100, 10, 110, 11);
    }

    static PotVolumes withWall(int thickness, PotVolumes x) {
        Due.answer("wall(0, " + thickness + ")", 0, x.wall(0, thickness));
        return x;
    }

    static PotVolumes profiles(int count) {
        PotVolumes x = new PotVolumes();
        for (int i = 0; i < count; i++) {
            Due.answer("profile()", i, x.profile());
        }
        return x;
    }

    static PotVolumes rim(int... places) {
        PotVolumes x = new PotVolumes();
        addPlaces(x, places);
        return x;
    }

    static PotVolumes rimOfTwenty() {
        PotVolumes x = new PotVolumes();
        for (int i = 1; i <= 20; i++) {
            Due.answer("rim(" + i + ", " + i * i / 2 + ")", i, x.rim(i, i * i / 2));
        }
        return x;
    }

    static PotVolumes sherds(int... shares) {
        PotVolumes x = profiles(1);
        int sum = 0;
        for (int share : shares) {
            sum += share;
            Due.answer("sherd(0, " + share + ")", sum, x.sherd(0, share));
        }
        return x;
    }

    static PotVolumes bounds(PotVolumes x, int... bounds) {
        for (int v : bounds) {
            int before = x.count(1);
            Due.answer("bound(" + v + ")", before + 1, x.bound(v));
        }
        return x;
    }

    static void addCorners(PotVolumes x, int profile, int... corners) {
        for (int i = 0; i < corners.length; i += 2) {
            Due.yes("corner(" + profile + ", " + corners[i] + ", " + corners[i + 1] + ")",
                    x.corner(profile, corners[i], corners[i + 1]));
        }
    }

    static void addPlaces(PotVolumes x, int... places) {
        int before = x.count(2);
        for (int i = 0; i < places.length; i += 2) {
            Due.answer("rim(" + places[i] + ", " + places[i + 1] + ")",
                    before + i / 2 + 1, x.rim(places[i], places[i + 1]));
        }
    }

    static void corners(PotVolumes x, int profile, int... due) {
        Due.answer("at(" + profile + ", -1, 0)", due.length / 2, x.at(profile, -1, 0));
        Due.answer("at(" + profile + ", -1, 1)", due.length / 2, x.at(profile, -1, 1));
        for (int i = 0; i < due.length; i++) {
            Due.answer("at(" + profile + ", " + i / 2 + ", " + i % 2 + ")", due[i], x.at(profile, i / 2, i % 2));
        }
    }

    /** Told as height, radius, height, radius .. */
    static void radiuses(PotVolumes x, int... due) {
        for (int i = 0; i < due.length; i += 2) {
            Due.answer("radius(0, " + due[i] + ")", due[i + 1], x.radius(0, due[i]));
        }
    }

    static void volume(PotVolumes x, int height, long above, long below) {
        Due.answer("volume(0, " + height + ", 0)", above, x.volume(0, height, 0));
        Due.answer("volume(0, " + height + ", 1)", below, x.volume(0, height, 1));
    }

    static void holds(PotVolumes x, int height, long above, long below) {
        Due.answer("holds(0, " + height + ", 0)", above, x.holds(0, height, 0));
        Due.answer("holds(0, " + height + ", 1)", below, x.holds(0, height, 1));
    }

    static void enclosed(PotVolumes x, long low, long high) {
        Due.answer("enclosed(0, 0)", low, x.enclosed(0, 0));
        Due.answer("enclosed(0, 1)", high, x.enclosed(0, 1));
    }

    static void drawn(PotVolumes x, int... due) {
        Due.answer("drawn(0, -1, 0)", due.length / 2, x.drawn(0, -1, 0));
        Due.answer("drawn(0, -1, 1)", due.length / 2, x.drawn(0, -1, 1));
        for (int i = 0; i < due.length; i++) {
            Due.answer("drawn(0, " + i / 2 + ", " + i % 2 + ")", due[i], x.drawn(0, i / 2, i % 2));
        }
    }

    static void circle(PotVolumes x, long above, long below) {
        Due.answer("circle(0)", above, x.circle(0));
        Due.answer("circle(1)", below, x.circle(1));
    }

    static void vessels(PotVolumes x, int byAll, int bySherds) {
        Due.answer("vessels(0, 0)", byAll, x.vessels(0, 0));
        Due.answer("vessels(0, 1)", bySherds, x.vessels(0, 1));
    }

    interface CallOfProfile {
        long answer(int profile);
    }

    /** Every number that is no profile where there are so many of them. */
    static void noSuchProfile(String name, int count, CallOfProfile call) {
        int[] wrong = {-1, count, count + 1, 6, 7, Integer.MIN_VALUE, Integer.MAX_VALUE};
        for (int profile : wrong) {
            Due.noIndex(name + " of profile " + profile, () -> call.answer(profile));
        }
    }

    interface CallOfChoice {
        long answer(int choice);
    }

    static void neither(String name, CallOfChoice call) {
        for (int choice : WRONG_CHOICES) {
            Due.noIndex(name + " with " + choice, () -> call.answer(choice));
        }
    }

    static void notWithin(String name, int low, int high, CallOfChoice call) {
        for (int v : new int[] {low - 1, high + 1, Integer.MIN_VALUE, Integer.MAX_VALUE}) {
            Due.noArgument(name + " with " + v, () -> call.answer(v));
        }
    }
}
