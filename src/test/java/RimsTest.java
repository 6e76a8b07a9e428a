/** Promises 15 to 18: places of a rim and the circle through three of them. */
public final class RimsTest {
    public static void main(String[] args) {
        places();
        placesRefused();
        clearing();
        circlesRefused();
        circles();
        middles();
        lines();
        Due.end("RimsTest");
    }

    private static PotVolumes rimOf(int... places) {
        PotVolumes x = new PotVolumes();
        for (int i = 0; i < places.length; i += 2) {
            Due.answer("rim", i / 2 + 1, x.rim(places[i], places[i + 1]));
        }
        return x;
    }

    private static void circle(PotVolumes x, long above, long below, int curve) {
        Due.answer("circle(0)", above, x.circle(0));
        Due.answer("circle(1)", below, x.circle(1));
        Due.answer("curve()", curve, x.curve());
    }

    private static void places() {
        PotVolumes x = new PotVolumes();
        for (int i = 1; i <= 20; i++) {
            Due.answer("rim", i, x.rim(i % 2 == 0 ? 200 : -200, i % 3 == 0 ? 200 : -200));
        }
        Due.noState("a place after 20", () -> x.rim(0, 0));
        Due.noArgument("the place comes before the 20", () -> x.rim(201, 0));
        Due.answer("count(2)", 20, x.count(2));
    }

    private static void placesRefused() {
        PotVolumes x = new PotVolumes();
        for (int v : new int[] {-201, 201, Integer.MIN_VALUE, Integer.MAX_VALUE}) {
            Due.noArgument("rim(" + v + ", 0)", () -> x.rim(v, 0));
            Due.noArgument("rim(0, " + v + ")", () -> x.rim(0, v));
        }
        Due.answer("count(2)", 0, x.count(2));
    }

    private static void clearing() {
        PotVolumes x = rimOf(0, 0, 3, 0, 0, 4);
        Due.answer("clear()", 3, x.clear());
        Due.answer("count(2)", 0, x.count(2));
        Due.noState("circle after clear", () -> x.circle(0));
        Due.answer("clear()", 0, x.clear());
        Due.answer("rim after clear", 1, x.rim(0, 5));
        Due.answer("rim after clear", 2, x.rim(5, 0));
        Due.answer("rim after clear", 3, x.rim(0, -5));
        circle(x, 25, 1, 5);
        for (int i = 4; i <= 20; i++) {
            x.rim(1, 1);
        }
        Due.answer("clear()", 20, x.clear());
        Due.answer("rim after 20 are cleared", 1, x.rim(1, 1));
    }

    private static void circlesRefused() {
        PotVolumes x = new PotVolumes();
        for (int places = 0; places < 3; places++) {
            Due.noState("circle(0)", () -> x.circle(0));
            Due.noState("circle(1)", () -> x.circle(1));
            Due.noIndex("the part comes before the places", () -> x.circle(2));
            Due.noState("curve()", () -> x.curve());
            x.rim(3 * places, places * places);
        }
        for (int part : new int[] {-1, 2, Integer.MIN_VALUE, Integer.MAX_VALUE}) {
            Due.noIndex("circle(" + part + ")", () -> x.circle(part));
        }
    }

    private static void circles() {
        circle(rimOf(0, 0, 3, 0, 0, 4), 25, 4, 2);
        circle(rimOf(0, 4, 3, 0, 0, 0), 25, 4, 2);
        circle(rimOf(0, 0, 1, 0, 0, 2), 5, 4, 1);
        circle(rimOf(0, 0, 1, 0, 0, 1), 1, 2, 0);
        circle(rimOf(0, 5, 5, 0, 0, -5), 25, 1, 5);
        circle(rimOf(-200, -200, 200, -200, 200, 200), 80000, 1, 282);
        circle(rimOf(-200, -200, -1, 0, 200, 200), 6400000001L, 2, 56568);
        circle(rimOf(-200, -200, 0, 1, 200, 199), 508174440179401L, 360000, 37571);
        circle(rimOf(-200, -200, 0, -1, 199, 197), 993667722696025L, 2, 22289770);
    }

    private static void middles() {
        circle(rimOf(0, 5, 9, 9, 0, -5, -5, 0), 25, 1, 5);
        circle(rimOf(0, 5, 5, 0, 0, -5, -5, 0, -200, 200), 10240001, 256, 200);
        circle(rimOf(0, 0, 9, 9, 8, 8, 3, 0, 7, 8, 0, 4), 25, 4, 2);
        circle(rimOf(0, 0, 9, 9, 8, 8, 3, 0, 7, 8, 7, 7, 0, 4), 25, 4, 2);
        PotVolumes x = new PotVolumes();
        for (int i = 0; i < 20; i++) {
            x.rim(i == 10 ? 3 : i, i == 19 ? 4 : 0);
        }
        // Places (0, 0), (3, 0) and (19, 4).
        circle(x, 6409, 4, 40);
    }

    private static void lines() {
        circle(rimOf(0, 0, 3, 4, 6, 8), 0, 1, 0);
        circle(rimOf(5, 5, 5, 5, 5, 5), 0, 1, 0);
        circle(rimOf(5, 5, 7, 9, 5, 5), 0, 1, 0);
        circle(rimOf(5, 5, 5, 5, 7, 9), 0, 1, 0);
        circle(rimOf(-200, 200, 0, 0, 200, -200), 0, 1, 0);
    }
}
