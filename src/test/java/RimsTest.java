/** Promises 15 to 18, sentence by sentence: each that names a boundary case has a test of its own. */
public final class RimsTest {
    public static void main(String[] args) {
        placesCounted();
        placeOutside();
        placeAfterTwenty();
        clearedOfAll();
        throughFirstMiddleAndLast();
        middleRoundedDown();
        circlesLessened();
        onOneLine();
        circleOfNoPart();
        circleOfLessThanThree();
        curveRoundedDown();
        curveOfLessThanThree();
        Due.end("RimsTest");
    }

    private static void placesCounted() {
        Due.sentence("15: A place of a rim as it lies: how many there are.");
        PotVolumes x = new PotVolumes();
        for (int i = 1; i <= 20; i++) {
            Due.answer("rim(7, -7)", i, x.rim(7, -7));
            Due.answer("count(2)", i, x.count(2));
        }
        // Places below 0 and in any order: the circle is the same one.
        Made.circle(Made.rim(-200, -200, 200, -200, 200, 200), 80000, 1);
        Made.circle(Made.rim(200, 200, -200, -200, 200, -200), 80000, 1);
        Made.circle(Made.rim(-3, -4, -3, 0, 0, 0), 25, 4);
    }

    private static void placeOutside() {
        Due.sentence("15: IllegalArgumentException: x or y is not -200 .. 200.");
        PotVolumes x = new PotVolumes();
        Made.notWithin("rim(.., 0)", -200, 200, v -> x.rim(v, 0));
        Made.notWithin("rim(0, ..)", -200, 200, v -> x.rim(0, v));
        Made.notWithin("rim(.., ..)", -200, 200, v -> x.rim(v, v));
        Due.answer("count(2)", 0, x.count(2));
        Made.addPlaces(x, -200, -200, -200, 200, 200, -200, 200, 200);
    }

    private static void placeAfterTwenty() {
        Due.sentence("15: IllegalStateException: there are 20.");
        PotVolumes x = Made.rimOfTwenty();
        long above = x.circle(0);
        Due.noState("a place after 20", () -> x.rim(0, 0));
        Due.noState("a place after 20 once more", () -> x.rim(200, -200));
        Made.notWithin("a wrong place after 20", -200, 200, v -> x.rim(0, v));
        Due.answer("count(2)", 20, x.count(2));
        Due.answer("circle(0)", above, x.circle(0));
        Due.answer("clear()", 20, x.clear());
        Due.answer("a place after clear", 1, x.rim(0, 0));
    }

    private static void clearedOfAll() {
        Due.sentence("16: No places any more: how many there were.");
        PotVolumes x = Made.rim(0, 0, 3, 0, 0, 4);
        Due.answer("clear()", 3, x.clear());
        Due.answer("clear() once more", 0, x.clear());
        Due.answer("count(2)", 0, x.count(2));
        Due.noState("circle(0)", () -> x.circle(0));
        Due.noState("curve()", () -> x.curve());
        Made.addPlaces(x, 0, 5, 5, 0);
        Due.noState("circle(0) of two after clear", () -> x.circle(0));
        Made.addPlaces(x, 0, -5);
        Made.circle(x, 25, 1);
        Due.answer("clear() without places", 0, new PotVolumes().clear());
        PotVolumes other = Made.rim(1, 1);
        other.profile();
        other.bound(5);
        other.sherd(0, 5);
        Due.answer("clear()", 1, other.clear());
        Due.answer("profiles after clear", 1, other.count(0));
        Due.answer("bounds after clear", 1, other.count(1));
        Due.answer("sherds after clear", 1, other.count(3));
    }

    private static void throughFirstMiddleAndLast() {
        Due.sentence("17: through the first place, that in the middle .. and the last one");
        PotVolumes x = new PotVolumes();
        // Of 20: the places 0, 10 and 19; all others lie on no such circle.
        for (int i = 0; i < 20; i++) {
            int across = i == 0 ? 0 : i == 10 ? 3 : i == 19 ? 0 : 100 + i;
            int along = i == 19 ? 4 : i == 0 || i == 10 ? 0 : i * i / 4;
            Due.answer("rim(" + across + ", " + along + ")", i + 1, x.rim(across, along));
        }
        Made.circle(x, 25, 4);
    }

    private static void middleRoundedDown() {
        Due.sentence("17: (of n: n / 2, rounded down)");
        // With three it is place 1, with four and five it is place 2, with six and seven place 3.
        Made.circle(Made.rim(0, 0, 3, 0, 0, 4), 25, 4);
        Made.circle(Made.rim(0, 0, 9, 7, 3, 0, 0, 4), 25, 4);
        Made.circle(Made.rim(0, 0, 9, 7, 3, 0, 8, 5, 0, 4), 25, 4);
        Made.circle(Made.rim(0, 0, 9, 7, 8, 5, 3, 0, 7, 9, 0, 4), 25, 4);
        Made.circle(Made.rim(0, 0, 9, 7, 8, 5, 3, 0, 7, 9, 6, 8, 0, 4), 25, 4);
    }

    private static void circlesLessened() {
        Due.sentence("17: as a fraction that cannot be lessened: above (0), below (1)");
        Made.circle(Made.rim(0, 0, 1, 0, 0, 1), 1, 2);
        Made.circle(Made.rim(0, 0, 2, 0, 0, 2), 2, 1);
        Made.circle(Made.rim(0, 5, 5, 0, 0, -5), 25, 1);
        Made.circle(Made.rim(0, 5, 0, -5, -200, 200), 10240001, 256);
        // The widest circles: the middle place lies hardly off the line.
        Made.circle(Made.rim(-200, -200, -1, 0, 200, 200), 6400000001L, 2);
        Made.circle(Made.rim(-200, -200, 0, 1, 200, 199), 508174440179401L, 360000);
        Made.circle(Made.rim(-200, -200, 0, -1, 199, 197), 993667722696025L, 2);
    }

    private static void onOneLine() {
        Due.sentence("17: 0 / 1, if they lie on one line");
        Made.circle(Made.rim(0, 0, 3, 4, 6, 8), 0, 1);
        Made.circle(Made.rim(6, 8, 0, 0, 3, 4), 0, 1);
        Made.circle(Made.rim(-200, 200, 0, 0, 200, -200), 0, 1);
        Made.circle(Made.rim(5, -200, 5, 0, 5, 200), 0, 1);
        Made.circle(Made.rim(5, 5, 5, 5, 5, 5), 0, 1);
        Made.circle(Made.rim(5, 5, 5, 5, 7, 9), 0, 1);
        Made.circle(Made.rim(5, 5, 7, 9, 5, 5), 0, 1);
        Made.circle(Made.rim(7, 9, 5, 5, 5, 5), 0, 1);
        // Others may lie off it.
        Made.circle(Made.rim(0, 0, 9, 0, 3, 4, 6, 8), 0, 1);
    }

    private static void circleOfNoPart() {
        Due.sentence("17: IndexOutOfBoundsException: part.");
        PotVolumes x = Made.rim(0, 0, 3, 0, 0, 4);
        Made.neither("circle of three", part -> x.circle(part));
        PotVolumes none = new PotVolumes();
        Made.neither("circle of none", part -> none.circle(part));
    }

    private static void circleOfLessThanThree() {
        Due.sentence("17: IllegalStateException: there are less than three.");
        PotVolumes x = new PotVolumes();
        for (int places = 0; places <= 2; places++) {
            Due.noState("circle(0) of " + places, () -> x.circle(0));
            Due.noState("circle(1) of " + places, () -> x.circle(1));
            Due.answer("rim", places + 1, x.rim(places, places * places));
        }
        Made.circle(x, 25, 1);
    }

    private static void curveRoundedDown() {
        Due.sentence("18: That circle's radius, rounded down.");
        // 5 exactly; 2.5; the root of 1 / 2; 1 exactly; and on one line 0.
        Due.answer("curve()", 5, Made.rim(0, 5, 5, 0, 0, -5).curve());
        Due.answer("curve()", 2, Made.rim(0, 0, 3, 0, 0, 4).curve());
        Due.answer("curve()", 0, Made.rim(0, 0, 1, 0, 0, 1).curve());
        Due.answer("curve()", 1, Made.rim(1, 0, 0, 1, -1, 0).curve());
        Due.answer("curve()", 0, Made.rim(0, 0, 3, 4, 6, 8).curve());
        // 282.8 .., and 200.004 ..
        Due.answer("curve()", 282, Made.rim(-200, -200, 200, -200, 200, 200).curve());
        Due.answer("curve()", 200, Made.rim(0, 5, 0, -5, -200, 200).curve());
        Due.answer("the widest circle", 22289770, Made.rim(-200, -200, 0, -1, 199, 197).curve());
    }

    private static void curveOfLessThanThree() {
        Due.sentence("18: IllegalStateException: there are less than three.");
        PotVolumes x = new PotVolumes();
        for (int places = 0; places <= 2; places++) {
            Due.noState("curve() of " + places, () -> x.curve());
            Due.answer("rim", places + 1, x.rim(places, places * places));
        }
        Due.answer("curve() of three", 5, x.curve());
    }
}
