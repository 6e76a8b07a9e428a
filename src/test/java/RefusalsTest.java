import java.util.List;

/** "Such a call changes nothing", and which exception comes first where several are due. */
public final class RefusalsTest {
    interface Making {
        PotVolumes make();
    }

    interface Refused {
        long answer(PotVolumes x);
    }

    private static final int[] NO_PROFILES = {-1, 6, Integer.MIN_VALUE, Integer.MAX_VALUE};
    private static final int[] OUTSIDE_ALL = {Integer.MIN_VALUE, -201, 1000000001, Integer.MAX_VALUE};

    public static void main(String[] args) {
        nothingChangedWhereFull();
        nothingChangedWhereNotFull();
        nothingChangedInANewObject();
        nothingChangedByAnAnswerOfNo();
        indexAheadOfArgument();
        indexAheadOfState();
        argumentAheadOfState();
        Due.end("RefusalsTest");
    }

    /** Six profiles: of twelve corners, cut, with a wall, without corners ..; no more of anything can be added. */
    private static PotVolumes full() {
        PotVolumes x = Made.profiles(6);
        for (int k = 0; k < 12; k++) {
            Made.addCorners(x, 0, 20 * k, 7 * k + 3);
        }
        Made.addCorners(x, 1, 5, 60, 40, 31);
        Due.yes("cut(1, 17)", x.cut(1, 17));
        Made.addCorners(x, 2, 0, 0, 0, 100, 100, 120);
        Due.answer("wall(2, 8)", 0, x.wall(2, 8));
        Made.addCorners(x, 3, 9, 1);
        for (int i = 1; i <= 10; i++) {
            Due.answer("bound", i, x.bound(100000 * i));
        }
        for (int i = 1; i <= 20; i++) {
            Due.answer("rim", i, x.rim(i * 9, i * i / 3));
        }
        for (int i = 0; i < 60; i++) {
            x.sherd(i % 5, 100 + 11 * i);
        }
        return x;
    }

    private static PotVolumes notFull() {
        PotVolumes x = Made.profiles(2);
        Made.addCorners(x, 0, 10, 60, 40, 31, 40, 50);
        Due.answer("wall(0, 8)", 0, x.wall(0, 8));
        Made.bounds(x, 5000, 50000);
        Made.addPlaces(x, 0, 0, 3, 0, 0, 4);
        Due.answer("sherd(0, 700)", 700, x.sherd(0, 700));
        Due.answer("sherd(1, 5)", 5, x.sherd(1, 5));
        return x;
    }

    private static void state(String name, Making making, Refused call) {
        PotVolumes x = making.make();
        Due.noState(name, () -> call.answer(x));
        sameAs(name, making, x);
    }

    private static void argument(String name, Making making, Refused call) {
        PotVolumes x = making.make();
        Due.noArgument(name, () -> call.answer(x));
        sameAs(name, making, x);
    }

    private static void index(String name, Making making, Refused call) {
        PotVolumes x = making.make();
        Due.noIndex(name, () -> call.answer(x));
        sameAs(name, making, x);
    }

    private static void no(String name, Making making, Refused call) {
        PotVolumes x = making.make();
        Due.answer(name, 0, call.answer(x));
        sameAs(name, making, x);
    }

    private static void sameAs(String name, Making making, PotVolumes x) {
        List<Long> before = Seen.of(making.make());
        List<Long> after = Seen.of(x);
        Due.yes(name + " changes nothing: " + before + " became " + after, before.equals(after));
    }

    private static void nothingChangedWhereFull() {
        Due.sentence("Such a call changes nothing (IllegalStateException)");
        Making full = RefusalsTest::full;
        state("profile()", full, x -> x.profile());
        state("corner of twelve", full, x -> Due.bit(x.corner(0, 300, 5)));
        state("corner of a cut one", full, x -> Due.bit(x.corner(1, 300, 5)));
        state("bound", full, x -> x.bound(1));
        state("rim", full, x -> x.rim(1, 1));
        state("sherd", full, x -> x.sherd(2, 1));
        state("circle of none", Made::pot, x -> x.circle(0));
        state("curve of none", Made::pot, x -> x.curve());
        state("circle of two", () -> Made.rim(1, 2, 3, 4), x -> x.circle(1));
        state("curve of two", () -> Made.rim(1, 2, 3, 4), x -> x.curve());
        anyWrong(full);
    }

    private static void nothingChangedWhereNotFull() {
        Due.sentence("Such a call changes nothing (IndexOutOfBoundsException, IllegalArgumentException)");
        anyWrong(RefusalsTest::notFull);
        for (int p : new int[] {2, 3, 4, 5}) {
            ofNoProfile(RefusalsTest::notFull, p);
        }
    }

    private static void nothingChangedInANewObject() {
        Due.sentence("Such a call changes nothing (of an object without profiles)");
        for (int p : new int[] {0, 1, 5}) {
            ofNoProfile(PotVolumes::new, p);
        }
        argument("bound", PotVolumes::new, x -> x.bound(-1));
        argument("rim", PotVolumes::new, x -> x.rim(0, -201));
        index("count", PotVolumes::new, x -> x.count(4));
        index("circle", PotVolumes::new, x -> x.circle(2));
    }

    private static void anyWrong(Making making) {
        for (int p : NO_PROFILES) {
            ofNoProfile(making, p);
        }
        for (int v : OUTSIDE_ALL) {
            argument("corner's height", making, x -> Due.bit(x.corner(0, v, 5)));
            argument("corner's radius", making, x -> Due.bit(x.corner(0, 300, v)));
            argument("wall", making, x -> x.wall(0, v));
            argument("bound", making, x -> x.bound(v));
            argument("rim's x", making, x -> x.rim(v, 0));
            argument("rim's y", making, x -> x.rim(0, v));
            argument("sherd", making, x -> x.sherd(0, v));
            index("at's corner", making, x -> x.at(0, v, 0));
            index("at's what", making, x -> x.at(0, 0, v));
            index("volume's part", making, x -> x.volume(0, 50, v));
            index("holds's part", making, x -> x.holds(0, 50, v));
            index("enclosed's end", making, x -> x.enclosed(0, v));
            index("drawn's point", making, x -> x.drawn(0, v, 0));
            index("drawn's what", making, x -> x.drawn(0, 0, v));
            index("circle's part", making, x -> x.circle(v));
            index("vessels's how", making, x -> x.vessels(0, v));
            index("count's what", making, x -> x.count(v));
        }
    }

    private static void ofNoProfile(Making making, int p) {
        index("corner of " + p, making, x -> Due.bit(x.corner(p, 300, 5)));
        index("at of " + p, making, x -> x.at(p, -1, 0));
        index("radius of " + p, making, x -> x.radius(p, 5));
        index("volume of " + p, making, x -> x.volume(p, 50, 0));
        index("holds of " + p, making, x -> x.holds(p, 50, 0));
        index("enclosed of " + p, making, x -> x.enclosed(p, 0));
        index("wall of " + p, making, x -> x.wall(p, 5));
        index("unlike of " + p, making, x -> x.unlike(p, 0));
        index("unlike of " + p, making, x -> x.unlike(0, p));
        index("cut of " + p, making, x -> Due.bit(x.cut(p, 15)));
        index("drawn of " + p, making, x -> x.drawn(p, -1, 0));
        index("size of " + p, making, x -> x.size(p));
        index("sherd of " + p, making, x -> x.sherd(p, 5));
        index("vessels of " + p, making, x -> x.vessels(p, 0));
    }

    private static void nothingChangedByAnAnswerOfNo() {
        Due.sentence("whether it can be one there .. whether that can be");
        Making making = RefusalsTest::notFull;
        no("a lower corner", making, x -> Due.bit(x.corner(0, 39, 5)));
        no("the same corner", making, x -> Due.bit(x.corner(0, 40, 50)));
        no("a third of that height", making, x -> Due.bit(x.corner(0, 40, 5)));
        for (int height : new int[] {Integer.MIN_VALUE, 0, 10, 40, 41, Integer.MAX_VALUE}) {
            no("cut at " + height, making, x -> Due.bit(x.cut(0, height)));
        }
        no("cut without corners", making, x -> Due.bit(x.cut(1, 20)));
        no("a second cut", RefusalsTest::full, x -> Due.bit(x.cut(1, 10)));
    }

    private static void indexAheadOfArgument() {
        Due.sentence("IndexOutOfBoundsException .. IllegalArgumentException, then IllegalStateException: the first ahead");
        PotVolumes x = notFull();
        Due.noIndex("corner(2, 401, 201)", () -> Due.bit(x.corner(2, 401, 201)));
        Due.noIndex("wall(2, 51)", () -> x.wall(2, 51));
        Due.noIndex("sherd(2, 1001)", () -> x.sherd(2, 1001));
    }

    private static void indexAheadOfState() {
        Due.sentence("IndexOutOfBoundsException .. then IllegalStateException: the first ahead");
        PotVolumes x = full();
        Due.noIndex("corner(6, 300, 5)", () -> Due.bit(x.corner(6, 300, 5)));
        Due.noIndex("sherd(6, 5)", () -> x.sherd(6, 5));
        Due.noIndex("circle(2) of none", () -> new PotVolumes().circle(2));
        Due.noIndex("circle(-1) of none", () -> new PotVolumes().circle(-1));
    }

    private static void argumentAheadOfState() {
        Due.sentence("IllegalArgumentException, then IllegalStateException");
        PotVolumes x = full();
        Due.noArgument("corner(0, 401, 5) of twelve", () -> Due.bit(x.corner(0, 401, 5)));
        Due.noArgument("corner(0, 300, 201) of twelve", () -> Due.bit(x.corner(0, 300, 201)));
        Due.noArgument("corner(1, -1, 5) of a cut one", () -> Due.bit(x.corner(1, -1, 5)));
        Due.noArgument("corner(1, 300, -1) of a cut one", () -> Due.bit(x.corner(1, 300, -1)));
        Due.noArgument("bound(-1) after ten", () -> x.bound(-1));
        Due.noArgument("bound(1000000001) after ten", () -> x.bound(1000000001));
        Due.noArgument("rim(201, 0) after 20", () -> x.rim(201, 0));
        Due.noArgument("rim(0, -201) after 20", () -> x.rim(0, -201));
        Due.noArgument("sherd(0, 0) after 60", () -> x.sherd(0, 0));
        Due.noArgument("sherd(0, 1001) after 60", () -> x.sherd(0, 1001));
    }
}
