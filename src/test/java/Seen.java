import java.util.ArrayList;
import java.util.List;

/** All that an object answers when every call that tells something of its state is made once. */
final class Seen {
    private Seen() {
    }

    /** At most some 330 calls, so that an object may have had 180 before; it is of no use after them. */
    static List<Long> of(PotVolumes x) {
        List<Long> seen = new ArrayList<>();
        for (int what = 0; what < 4; what++) {
            seen.add((long) x.count(what));
        }
        int profiles = x.count(0);
        for (int profile = 0; profile < profiles; profile++) {
            addProfile(seen, x, profile);
        }
        addRim(seen, x);
        for (int profile = 0; profile < profiles; profile++) {
            addLastCalls(seen, x, profile);
        }
        return seen;
    }

    private static void addProfile(List<Long> seen, PotVolumes x, int profile) {
        int corners = x.at(profile, -1, 0);
        seen.add((long) corners);
        for (int k = 0; k < corners; k++) {
            seen.add((long) x.at(profile, k, 0));
            seen.add((long) x.at(profile, k, 1));
        }
        seen.add(x.volume(profile, 400, 0));
        seen.add(x.holds(profile, 400, 0));
        seen.add(x.holds(profile, 400, 1));
        seen.add(x.enclosed(profile, 1));
        seen.add((long) x.size(profile));
        seen.add((long) x.unlike(0, profile));
        seen.add((long) x.drawn(profile, -1, 0));
        seen.add((long) x.vessels(profile, 0));
        seen.add((long) x.vessels(profile, 1));
    }

    private static void addRim(List<Long> seen, PotVolumes x) {
        if (x.count(2) >= 3) {
            seen.add(x.circle(0));
            seen.add(x.circle(1));
            seen.add((long) x.curve());
        }
        seen.add((long) x.clear());
    }

    /** What only a call that changes something can tell: the wall, all thousandths, and whether it was cut. */
    private static void addLastCalls(List<Long> seen, PotVolumes x, int profile) {
        seen.add((long) x.wall(profile, 0));
        seen.add(answer(() -> x.sherd(profile, 1)));
        seen.add(answer(() -> Due.bit(x.corner(profile, 400, 0))));
        seen.add(answer(() -> Due.bit(x.cut(profile, 1))));
    }

    private static long answer(Due.Call call) {
        try {
            return call.answer();
        } catch (IllegalStateException e) {
            return Long.MIN_VALUE;
        }
    }
}
