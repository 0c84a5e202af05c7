/** The edges in the sentences of promises 26 and 27. */
final class WatchEdges {
    private static final int BAD = -2, STATE = -3, NONE = -1;

    private final Check check;

    WatchEdges(Check check) {
        this.check = check;
    }

    void all() {
        heights();
        inPlace();
        fewest();
        lastStation();
        watched();
        watchedByAll();
    }

    private static SightRidge line(int stations, int ground) {
        SightRidge x = new SightRidge();
        x.reset(stations, ground);
        return x;
    }

    private void heights() {
        check.sentence(26, "`height`: the height of the masts, 1 to 200");
        SightRidge x = new SightRidge();
        for (int height : new int[] {0, -1, 201, Integer.MIN_VALUE, Integer.MAX_VALUE}) {
            check.error(x, "watch(" + height + ")", () -> x.watch(height), BAD);
        }
        check.due("finding(-1)", x.finding(NONE), STATE);
        check.due("watch(1) of two", x.watch(1), 1);
        check.finding(x, "watch(1)", 0);
        check.due("watch(200) of two", x.watch(200), 1);
        // Over 99 on 1, a mast of 199 on 0 sees all; so does one of 200 over 100, and none over 101.
        SightRidge high = Check.withProfile("0,100,0,0");
        high.setGround(3, 999);
        high.setGround(1, 99);
        check.due("watch(198)", high.watch(198), 1);
        check.due("watch(197)", high.watch(197), 2);
        high.setGround(1, 100);
        check.due("watch(200) at clearance 0", high.watch(200), 1);
        check.due("watch(199) at clearance -1", high.watch(199), 2);
    }

    private void inPlace() {
        check.sentence(26, "each with a mast of some height in place of what it has (all others as they are now), that "
            + "sees all ground together:");
        SightRidge x = Check.withProfile("0*4m200,0m200");
        x.setBulge(9);
        check.due("watch(1) in place of masts of 200", x.watch(1), 0b01001);
        check.finding(x, "watch(1)", 0, 3);
        check.due("watch(200)", x.watch(200), 1);
        check.masts(x, "after watch()", 200, 200, 200, 200, 200);
        check.due("count(6)", x.count(6), 2);
        x.setRange(1);
        check.due("watch(200), which no range limits", x.watch(200), 1);
        x.reset(5, 0);
        check.due("watch(200) without masts", x.watch(200), 1);
        check.due("watch(1) without masts", x.watch(1), 0b01001);
    }

    private void fewest() {
        check.sentence(26, "Of all such sets it is one with the fewest stations, of several the least number.");
        for (int stations = 2; stations <= 20; stations++) {
            SightRidge x = line(stations, 0);
            check.due("watch(1) of a plain of " + stations, x.watch(1), 1);
            x.setBulge(9);
            check.due("watch(1) over a bulge on " + stations, x.watch(1), leastByBulge(stations));
        }
        // 2 sees all but the ground of 0, which 0 and 1 see.
        SightRidge either = Check.withProfile("0,10,10,0,0");
        check.due("watch(1), by 0 rather than by 1", either.watch(1), 0b00101);
        // 0, 2 and 5 see all as well, and are the less number, but they are three.
        SightRidge last = Check.withProfile("0,417,428,0,78,126,0,556");
        check.due("watch(3), by two with the last one", last.watch(3), 0b10000001);
        SightRidge summits = Check.withProfile("0,20,0,20,0,100*2,0,20,0,20,0");
        check.due("watch(1), by two neighbors", summits.watch(1), 0b0000_0110_0000);
        SightRidge hills = Check.withProfile("0,10,0,10,0");
        check.due("watch(20), one instead of two", hills.watch(20), 0b00010);
        check.due("watch(19), two", hills.watch(19), 0b01001);
    }

    /** Each sees its neighbors alone: of all sets with that sight, one with the fewest, then the least number. */
    private static int leastByBulge(int stations) {
        int all = (1 << stations) - 1;
        int best = all;
        for (int set = all; set > 0; set--) {
            boolean whole = ((set | set << 1 | set >> 1) & all) == all;
            if (whole && Integer.bitCount(set) <= Integer.bitCount(best)) {
                best = set;
            }
        }
        return best;
    }

    private void lastStation() {
        check.sentence(26, "The set is the finding.");
        SightRidge x = Check.withProfile("0,10,0,10,0,10,0,10,0,10,0,10,0,10,0,10,0,10,0,999");
        check.due("watch(1) from the summit at the end", x.watch(1), 1 << 19);
        check.finding(x, "watch(1)", 19);
        x.reverse();
        check.due("watch(1) from the summit at the start", x.watch(1), 1);
        check.finding(x, "watch(1)", 0);
    }

    private void watched() {
        check.sentence(27, "Returns the number; BAD if the set contains a station that does not exist.");
        SightRidge x = line(20, 0);
        int[] more = {1 << 20, 1 << 20 | 1, 1 << 30, Integer.MIN_VALUE, -1, Integer.MAX_VALUE};
        for (int set : more) {
            check.error(x, "watched(" + set + ") of twenty", () -> x.watched(set), BAD);
        }
        check.due("watched() by the last", x.watched(1 << 19), 20);
        check.due("watched() by all", x.watched((1 << 20) - 1), 20);
        x.reset(2, 0);
        for (int set : new int[] {4, 5, 7, 1 << 19, -1, -4, Integer.MIN_VALUE, Integer.MAX_VALUE}) {
            check.error(x, "watched(" + set + ") of two", () -> x.watched(set), BAD);
        }
        check.due("watched(3)", x.watched(3), 2);
        check.due("watched(0) by none", x.watched(0), 0);
        check.due("finding(-1), as nothing is found", x.finding(NONE), STATE);
    }

    private void watchedByAll() {
        check.sentence(27, "Returns how many grounds are seen by at least one of a set of stations, as they are now.");
        SightRidge x = line(20, 0);
        x.setBulge(9);
        check.due("watched() by the first", x.watched(1), 2);
        check.due("watched() by the last", x.watched(1 << 19), 2);
        check.due("watched() by both", x.watched(1 << 19 | 1), 4);
        check.due("watched() by two with one ground in common", x.watched(0b101), 4);
        check.due("watched() by all", x.watched((1 << 20) - 1), 20);
        x.mast(0, 18);
        check.due("watched() from a mast at clearance 0", x.watched(1), 3);
        x.mast(0, 17);
        check.due("watched() from a mast at clearance -1", x.watched(1), 2);
        x.mast(2, 18);
        check.due("watched() by the first, as 2's mast is not its ground", x.watched(1), 2);
    }
}
