import java.util.Random;

/** Promises 1 to 21 in long runs: calls drawn by a fixed seed, each held against the model's answer. */
public final class ModelTest {
    private static final int RUNS = 300;
    private static final int CALLS = 512;
    private static final int[] EXTREMES = {Integer.MIN_VALUE, Integer.MAX_VALUE, -1, -2, Integer.MIN_VALUE + 1};

    private final Random random;
    private final PotVolumes x = new PotVolumes();
    private final Model model = new Model();
    private final boolean rarelyWrong;

    private ModelTest(long seed) {
        random = new Random(seed);
        rarelyWrong = seed % 2 == 0;
    }

    public static void main(String[] args) {
        for (int run = 0; run < RUNS; run++) {
            new ModelTest(run).run(run);
        }
        Due.end("ModelTest");
    }

    private void run(int run) {
        for (int call = 0; call < CALLS; call++) {
            step("run " + run + " call " + call + " ", call);
        }
    }

    private int from(int low, int high) {
        if (random.nextInt(rarelyWrong ? 200 : 25) == 0) {
            return EXTREMES[random.nextInt(EXTREMES.length)];
        }
        if (random.nextInt(rarelyWrong ? 200 : 25) == 0) {
            return random.nextBoolean() ? low - 1 : high + 1;
        }
        return low + random.nextInt(high - low + 1);
    }

    private int someProfile() {
        return from(0, Math.max(0, model.pots.size() - 1));
    }

    private int choice() {
        return from(0, 1);
    }

    private static long answer(Due.Call call) {
        try {
            return call.answer();
        } catch (RuntimeException e) {
            if (e.getClass() == IndexOutOfBoundsException.class) {
                return Model.INDEX;
            }
            if (e.getClass() == IllegalArgumentException.class) {
                return Model.ARGUMENT;
            }
            if (e.getClass() == IllegalStateException.class) {
                return Model.STATE;
            }
            System.out.println("the machine threw " + e);
            return Long.MAX_VALUE;
        }
    }

    private static void due(String call, long want, Due.Call got) {
        Due.answer(call, want, answer(got));
    }

    private void step(String name, int call) {
        int kind = random.nextInt(call < 100 ? 12 : 28);
        if (kind < 12) {
            change(name, kind);
        } else if (kind < 20) {
            measure(name, kind);
        } else {
            look(name, kind);
        }
    }

    private void change(String name, int kind) {
        int p = someProfile();
        int a;
        int b;
        switch (kind) {
            case 0:
                due(name + "profile", model.profile(), () -> x.profile());
                break;
            case 1:
                a = from(0, 50);
                due(name + "wall " + p + " " + a, model.wall(p, a), () -> x.wall(p, a));
                break;
            case 2:
                a = from(0, 400);
                if (random.nextInt(4) == 0) {
                    due(name + "cut " + p + " " + a, model.cut(p, a), () -> x.cut(p, a) ? 1 : 0);
                }
                break;
            case 3:
                a = random.nextBoolean() ? from(0, 1000000000) : from(0, 40000000);
                due(name + "bound " + a, model.bound(a), () -> x.bound(a));
                break;
            case 4:
                if (random.nextInt(6) == 0) {
                    due(name + "clear", model.clear(), () -> x.clear());
                }
                break;
            case 5:
            case 6:
                int reach = random.nextBoolean() ? 200 : 2;
                a = from(-reach, reach);
                b = from(-reach, reach);
                due(name + "rim " + a + " " + b, model.rim(a, b), () -> x.rim(a, b));
                break;
            case 7:
                a = from(1, random.nextBoolean() ? 1000 : 400);
                due(name + "sherd " + p + " " + a, model.sherd(p, a), () -> x.sherd(p, a));
                break;
            default:
                addCorner(name, p);
                break;
        }
    }

    /** Mostly near above the last corner, so that rows grow long. */
    private void addCorner(String name, int p) {
        int height = from(0, 400);
        int n = p >= 0 && p < model.pots.size() ? model.pots.get(p).corners.size() : 0;
        if (n > 0 && random.nextInt(10) != 0) {
            height = model.pots.get(p).last().height() + random.nextInt(random.nextInt(120) + 1);
        } else if (n == 0 && random.nextBoolean()) {
            height = random.nextInt(20);
        }
        int radius = random.nextInt(4) == 0 ? from(0, 2) : from(0, 200);
        int h = height;
        due(name + "corner " + p + " " + h + " " + radius, model.corner(p, h, radius),
                () -> x.corner(p, h, radius) ? 1 : 0);
    }

    private void measure(String name, int kind) {
        int p = someProfile();
        int q = someProfile();
        int height = from(0, 400);
        int c = choice();
        switch (kind) {
            case 12:
                due(name + "volume", model.volume(p, height, c), () -> x.volume(p, height, c));
                break;
            case 13:
            case 14:
            case 15:
                due(name + "holds", model.holds(p, height, c), () -> x.holds(p, height, c));
                break;
            case 16:
                due(name + "enclosed", model.enclosed(p, c), () -> x.enclosed(p, c));
                break;
            case 17:
                due(name + "size", model.size(p), () -> x.size(p));
                break;
            case 18:
                due(name + "radius", model.radius(p, height), () -> x.radius(p, height));
                break;
            default:
                if (random.nextInt(4) == 0) {
                    due(name + "unlike", model.unlike(p, q), () -> x.unlike(p, q));
                }
                break;
        }
    }

    private void look(String name, int kind) {
        int p = someProfile();
        int c = choice();
        int k = from(-1, 12);
        switch (kind) {
            case 20:
                due(name + "at", model.at(p, k, c), () -> x.at(p, k, c));
                break;
            case 21:
            case 22:
                int point = kind == 21 ? k : from(-1, 24);
                due(name + "drawn", model.drawn(p, point, c), () -> x.drawn(p, point, c));
                break;
            case 23:
                due(name + "circle", model.circle(c), () -> x.circle(c));
                break;
            case 24:
                due(name + "curve", model.curve(), () -> x.curve());
                break;
            case 25:
            case 26:
                due(name + "vessels", model.vessels(p, c), () -> x.vessels(p, c));
                break;
            default:
                int what = from(0, 3);
                due(name + "count", model.count(what), () -> x.count(what));
                break;
        }
    }
}
