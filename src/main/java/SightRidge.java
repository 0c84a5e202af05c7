/** A workbench for sight lines over a ridge. ../shared/DOC.md numbers its promises. */
public final class SightRidge {
    public static final int BAD = -2, STATE = -3, FULL = -4;
    public static final int NONE = -1;

    private static final int MIN_STATIONS = 2;
    private static final int MAX_STATIONS = 20;
    private static final int MAX_GROUND = 999;
    private static final int MAX_MAST = 200;
    private static final int MAX_RANGE = 19;
    private static final int MAX_BULGE = 9;
    private static final int MAX_STATES = 10;
    private static final int MAX_TEXT = 120;
    private static final int MAX_LETTER = 127;
    private static final int MAX_DIGITS = 3;
    private static final int COUNTS = 9;
    private static final int PROPERTIES = 6;

    // Everything is made once, here, and used again: no call makes an object.
    private final Profile ridge = new Profile();
    private final Profile draft = new Profile();
    private final History history = new History();
    private final Text text = new Text();
    private final Finding found = new Finding();
    private final Routes routes = new Routes();
    private final Cover cover = new Cover();

    public SightRidge() {
    }

    // ---- profile

    public int reset(int stations, int ground) {
        if (!within(stations, MIN_STATIONS, MAX_STATIONS) || !within(ground, 0, MAX_GROUND)) {
            return BAD;
        }
        history.keep(ridge);
        ridge.clear();
        ridge.append(stations, ground, 0);
        return stations;
    }

    public int setGround(int station, int ground) {
        if (!ridge.has(station) || !within(ground, 0, MAX_GROUND)) {
            return BAD;
        }
        history.keep(ridge);
        int before = ridge.grounds[station];
        ridge.grounds[station] = ground;
        return before;
    }

    public int slope(int a, int b) {
        if (!ridge.has(a) || !ridge.has(b) || a >= b) {
            return BAD;
        }
        history.keep(ridge);
        return ridge.even(a, b);
    }

    public int mast(int station, int height) {
        if (!ridge.has(station) || !within(height, 0, MAX_MAST)) {
            return BAD;
        }
        history.keep(ridge);
        int before = ridge.masts[station];
        ridge.masts[station] = height;
        return before;
    }

    public int reverse() {
        history.keep(ridge);
        // No other call reads the draft without filling it first.
        draft.copyFrom(ridge);
        return ridge.takeReversed(draft);
    }

    public int setRange(int range) {
        if (!within(range, 1, MAX_RANGE)) {
            return BAD;
        }
        history.keep(ridge);
        int before = ridge.range;
        ridge.range = range;
        return before;
    }

    public int setBulge(int bulge) {
        if (!within(bulge, 0, MAX_BULGE)) {
            return BAD;
        }
        history.keep(ridge);
        int before = ridge.bulge;
        ridge.bulge = bulge;
        return before;
    }

    public int undo() {
        if (history.size == 0) {
            return STATE;
        }
        history.restore(ridge);
        return history.size;
    }

    public int type(int letter) {
        if (!within(letter, 0, MAX_LETTER)) {
            return BAD;
        }
        return text.append(letter) ? text.length : FULL;
    }

    public int clearText() {
        int before = text.length;
        text.length = 0;
        return before;
    }

    public int fault() {
        return text.read(draft);
    }

    public int load() {
        if (text.read(draft) != NONE) {
            return STATE;
        }
        history.keep(ridge);
        ridge.takeStations(draft);
        text.length = 0;
        return ridge.stations;
    }

    public int station(int station, int what) {
        if (!ridge.has(station)) {
            return BAD;
        }
        switch (what) {
            case 0:
                return ridge.grounds[station];
            case 1:
                return ridge.masts[station];
            case 2:
                return ridge.topOf(station);
            case 3:
                return ridge.contacts(station);
            case 4:
                return ridge.groundsSeen(station, ridge.topOf(station));
            case 5:
                return ridge.higherNeighbors(station);
            default:
                return BAD;
        }
    }

    // ---- sight

    public int sees(int a, int b) {
        if (!ridge.has(a) || !ridge.has(b)) {
            return BAD;
        }
        return ridge.topsSee(a, b) ? 1 : 0;
    }

    public int obstacle(int a, int b, int what) {
        if (!ridge.hasPair(a, b) || !within(what, 0, 1)) {
            return BAD;
        }
        int station = ridge.mostInTheWay(a, b);
        if (station == NONE || what == 0) {
            return station;
        }
        return ridge.clearance(a, ridge.topOf(a), b, ridge.topOf(b), station);
    }

    public int neededMast(int a, int b) {
        if (!ridge.hasPair(a, b)) {
            return BAD;
        }
        for (int height = 0; height <= MAX_MAST; height++) {
            if (ridge.pointsSee(a, ridge.grounds[a] + height, b, ridge.topOf(b))) {
                return height;
            }
        }
        return NONE;
    }

    public int growth(int a, int b, int what) {
        if (!ridge.hasPair(a, b) || !within(what, 0, 2)) {
            return BAD;
        }
        int sum = NONE;
        int first = NONE;
        int other = MAX_MAST - ridge.masts[b];
        for (int own = 0; own <= MAX_MAST - ridge.masts[a]; own++) {
            // The higher a's mast, the less b's has to grow: other never has to go up again.
            for (; other >= 0 && ridge.grownSee(a, own, b, other); other--) {
                if (sum == NONE || own + other < sum) {
                    sum = own + other;
                    first = own;
                }
            }
        }
        if (sum == NONE || what == 0) {
            return sum;
        }
        return what == 1 ? first : sum - first;
    }

    public int shadow(int station, int i, int what) {
        if (!ridge.has(station) || i < 0 || !within(what, 0, 1)) {
            return BAD;
        }
        int dark = ridge.all() & ~ridge.groundsSeen(station, ridge.topOf(station));
        int ends = what == 0 ? dark & ~(dark << 1) : dark & ~(dark >> 1);
        return nthOf(ends, i);
    }

    public int farthest() {
        // Neighbors are in contact in any profile, so 0 and 1 are a pair to begin with.
        int low = 0;
        int high = 1;
        for (int a = 0; a < ridge.stations; a++) {
            for (int b = a + 1; b < ridge.stations; b++) {
                if (b - a > high - low && ridge.inContact(a, b)) {
                    low = a;
                    high = b;
                }
            }
        }
        return 100 * low + high;
    }

    // ---- chains

    public int chain(int from, int to) {
        if (!ridge.has(from) || !ridge.has(to)) {
            return BAD;
        }
        routes.survey(ridge, 0);
        return routes.findChain(from, to, found) ? found.size : NONE;
    }

    public int newMasts(int from, int to, int height) {
        if (!ridge.has(from) || !ridge.has(to) || !within(height, 1, MAX_MAST)) {
            return BAD;
        }
        routes.survey(ridge, height);
        return routes.findChain(from, to, found) ? ridge.withoutMast(found) : NONE;
    }

    public int vital(int from, int to) {
        if (!ridge.has(from) || !ridge.has(to)) {
            return BAD;
        }
        routes.survey(ridge, 0);
        if (!routes.join(from, to, routes.relays)) {
            return STATE;
        }
        int set = routes.notToBeMissed(from, to);
        found.keepSet(set);
        return set;
    }

    public int finding(int i) {
        if (i < NONE) {
            return BAD;
        }
        if (found.size == NONE) {
            return STATE;
        }
        if (i == NONE) {
            return found.size;
        }
        return i < found.size ? found.stations[i] : NONE;
    }

    public int groups() {
        routes.survey(ridge, 0);
        return routes.countGroups();
    }

    // ---- watching the ground

    public int watch(int height) {
        if (!within(height, 1, MAX_MAST)) {
            return BAD;
        }
        int set = cover.find(ridge, height);
        found.keepSet(set);
        return set;
    }

    public int watched(int stations) {
        if ((stations & ~ridge.all()) != 0) {
            return BAD;
        }
        int seen = 0;
        for (int s = 0; s < ridge.stations; s++) {
            if (holds(stations, s)) {
                seen |= ridge.groundsSeen(s, ridge.topOf(s));
            }
        }
        return Integer.bitCount(seen);
    }

    // ---- numbers, digest

    public int count(int what) {
        switch (what) {
            case 0:
                return ridge.stations;
            case 1:
                return ridge.countMasts();
            case 2:
                return ridge.range;
            case 3:
                return ridge.bulge;
            case 4:
                return ridge.pairsWithin(MAX_RANGE);
            case 5:
                return ridge.pairsWithin(ridge.range);
            case 6:
                return history.size;
            case 7:
                return text.length;
            case 8:
                return ridge.sumOfMasts();
            default:
                return BAD;
        }
    }

    public long digest() {
        long h = 53;
        for (int what = 0; what < COUNTS; what++) {
            h = 31 * h + count(what);
        }
        for (int s = 0; s < ridge.stations; s++) {
            for (int what = 0; what < PROPERTIES; what++) {
                h = 31 * h + station(s, what);
            }
        }
        h = 31 * h + groups();
        h = 31 * h + farthest();
        for (int i = 0; i < found.size; i++) {
            h = 31 * h + found.stations[i];
        }
        for (int i = 0; i < text.length; i++) {
            h = 31 * h + text.letters[i];
        }
        return h;
    }

    private static boolean within(int value, int least, int most) {
        return value >= least && value <= most;
    }

    private static boolean holds(int set, int station) {
        return (set >> station & 1) == 1;
    }

    private static int nthOf(int set, int n) {
        int passed = 0;
        for (int s = 0; s < MAX_STATIONS; s++) {
            if (holds(set, s)) {
                if (passed == n) {
                    return s;
                }
                passed++;
            }
        }
        return NONE;
    }

    /** The stations with the range and the bulge: what the history keeps, and what sight depends on. */
    private static final class Profile {
        final int[] grounds = new int[MAX_STATIONS];
        final int[] masts = new int[MAX_STATIONS];
        int stations = MIN_STATIONS;
        int range = MAX_RANGE;
        int bulge = 0;

        boolean has(int s) {
            return s >= 0 && s < stations;
        }

        boolean hasPair(int a, int b) {
            return has(a) && has(b) && a != b;
        }

        int all() {
            return (1 << stations) - 1;
        }

        int topOf(int s) {
            return has(s) ? grounds[s] + masts[s] : 0;
        }

        void clear() {
            stations = 0;
        }

        void append(int times, int ground, int mast) {
            for (int i = 0; i < times && stations < MAX_STATIONS; i++) {
                grounds[stations] = ground;
                masts[stations] = mast;
                stations++;
            }
        }

        void copyFrom(Profile other) {
            takeStations(other);
            range = other.range;
            bulge = other.bulge;
        }

        void takeStations(Profile other) {
            stations = other.stations;
            for (int s = 0; s < stations; s++) {
                grounds[s] = other.grounds[s];
                masts[s] = other.masts[s];
            }
        }

        int takeReversed(Profile other) {
            int changed = 0;
            for (int s = 0; s < stations; s++) {
                int mirror = stations - 1 - s;
                if (grounds[s] != other.grounds[mirror] || masts[s] != other.masts[mirror]) {
                    changed++;
                }
                grounds[s] = other.grounds[mirror];
                masts[s] = other.masts[mirror];
            }
            return changed;
        }

        int even(int a, int b) {
            if (!has(a) || !has(b) || a >= b) {
                return 0;
            }
            int changed = 0;
            int rise = grounds[b] - grounds[a];
            for (int k = a + 1; k < b; k++) {
                int ground = grounds[a] + rise * (k - a) / (b - a);
                if (grounds[k] != ground) {
                    changed++;
                }
                grounds[k] = ground;
            }
            return changed;
        }

        /** Of k, which lies between a and b, in whichever order these two stand. */
        int clearance(int a, int p, int b, int q, int k) {
            if (!has(k)) {
                return 0;
            }
            int toA = Math.abs(k - a);
            int toB = Math.abs(b - k);
            return p * toB + q * toA - (toA + toB) * (grounds[k] + bulge * toA * toB);
        }

        boolean pointsSee(int a, int p, int b, int q) {
            int end = Math.max(a, b);
            for (int k = Math.min(a, b) + 1; k < end; k++) {
                if (clearance(a, p, b, q, k) < 0) {
                    return false;
                }
            }
            return true;
        }

        boolean topsSee(int a, int b) {
            return pointsSee(a, topOf(a), b, topOf(b));
        }

        boolean grownSee(int a, int growthOfA, int b, int growthOfB) {
            return pointsSee(a, topOf(a) + growthOfA, b, topOf(b) + growthOfB);
        }

        boolean inContact(int a, int b) {
            return a != b && Math.abs(a - b) <= range && pointsSee(a, topOf(a), b, topOf(b));
        }

        int contacts(int s) {
            int set = 0;
            for (int t = 0; t < stations; t++) {
                if (inContact(s, t)) {
                    set |= 1 << t;
                }
            }
            return set;
        }

        int groundsSeen(int s, int point) {
            int set = 0;
            for (int t = 0; t < stations; t++) {
                // Between s and itself nothing stands, so its own ground is seen.
                if (pointsSee(s, point, t, grounds[t])) {
                    set |= 1 << t;
                }
            }
            return set;
        }

        int higherNeighbors(int s) {
            int higher = 0;
            for (int t = s - 1; t <= s + 1; t++) {
                if (has(t) && topOf(t) > topOf(s)) {
                    higher++;
                }
            }
            return higher;
        }

        int mostInTheWay(int a, int b) {
            int worst = NONE;
            int least = 0;
            int end = Math.max(a, b);
            for (int k = Math.min(a, b) + 1; k < end; k++) {
                int clearance = clearance(a, topOf(a), b, topOf(b), k);
                if (worst == NONE || clearance < least) {
                    worst = k;
                    least = clearance;
                }
            }
            return worst;
        }

        int pairsWithin(int distance) {
            int pairs = 0;
            for (int a = 0; a < stations; a++) {
                for (int b = a + 1; b < stations && b - a <= distance; b++) {
                    if (topsSee(a, b)) {
                        pairs++;
                    }
                }
            }
            return pairs;
        }

        int countMasts() {
            int standing = 0;
            for (int s = 0; s < stations; s++) {
                if (masts[s] > 0) {
                    standing++;
                }
            }
            return standing;
        }

        int sumOfMasts() {
            int sum = 0;
            for (int s = 0; s < stations; s++) {
                sum += masts[s];
            }
            return sum;
        }

        int withoutMast(Finding chain) {
            int bare = 0;
            for (int i = 0; i < chain.size; i++) {
                int s = chain.stations[i];
                if (has(s) && masts[s] == 0) {
                    bare++;
                }
            }
            return bare;
        }
    }

    /** The latest states, in a ring, so that the oldest one is dropped by writing over it. */
    private static final class History {
        final Profile[] states = new Profile[MAX_STATES];
        int size = 0;
        int next = 0;

        History() {
            for (int i = 0; i < MAX_STATES; i++) {
                states[i] = new Profile();
            }
        }

        void keep(Profile state) {
            states[next].copyFrom(state);
            next = next < MAX_STATES - 1 ? next + 1 : 0;
            size = Math.min(size + 1, MAX_STATES);
        }

        void restore(Profile state) {
            if (size > 0) {
                next = next > 0 ? next - 1 : MAX_STATES - 1;
                size--;
                state.copyFrom(states[next]);
            }
        }
    }

    /** The typed text and its reader, which stops at the first fault, as that has the least index. */
    private static final class Text {
        final byte[] letters = new byte[MAX_TEXT];
        int length = 0;
        int at = 0;
        int flaw = NONE;

        boolean append(int letter) {
            if (length >= MAX_TEXT) {
                return false;
            }
            letters[length] = (byte) letter;
            length++;
            return true;
        }

        int read(Profile into) {
            into.clear();
            at = 0;
            flaw = NONE;
            skipBlanks();
            for (int part = 0; part < MAX_TEXT && flaw == NONE; part++) {
                readStations(into);
                if (part > 0 && at == length) {
                    return flaw;
                }
                if (flaw == NONE && !accept(',')) {
                    flaw = at;
                }
            }
            return flaw;
        }

        private void readStations(Profile into) {
            int room = MAX_STATIONS - into.stations;
            // Where there is no room for a station, no number is in range as its ground height.
            int ground = readNumber(0, room > 0 ? MAX_GROUND : NONE);
            int times = accept('*') ? readNumber(1, room) : 1;
            int mast = accept('m') ? readNumber(1, MAX_MAST) : 0;
            if (flaw == NONE) {
                into.append(times, ground, mast);
            }
        }

        private int readNumber(int least, int most) {
            int start = at;
            int value = 0;
            for (int digits = 0; digits < MAX_DIGITS && within(peek(), '0', '9'); digits++) {
                value = 10 * value + peek() - '0';
                at++;
            }
            if (flaw == NONE && (at == start || !within(value, least, most))) {
                flaw = start;
            }
            skipBlanks();
            return value;
        }

        private boolean accept(int letter) {
            if (peek() != letter) {
                return false;
            }
            at++;
            skipBlanks();
            return true;
        }

        private void skipBlanks() {
            for (int i = at; i < length && peek() == ' '; i++) {
                at++;
            }
        }

        private int peek() {
            return at >= 0 && at < length ? letters[at] : NONE;
        }
    }

    /** The latest chain or set that a call found; its size is NONE as long as there is none. */
    private static final class Finding {
        final int[] stations = new int[MAX_STATIONS];
        int size = NONE;

        void clear() {
            size = 0;
        }

        void append(int s) {
            if (size >= 0 && size < MAX_STATIONS) {
                stations[size] = s;
                size++;
            }
        }

        void keepSet(int set) {
            clear();
            for (int s = 0; s < MAX_STATIONS; s++) {
                if (holds(set, s)) {
                    append(s);
                }
            }
        }
    }

    /** The contacts of a profile, perhaps with new masts, and the ways over them. */
    private static final class Routes {
        // A chain has fewer stations than this, so one new mast weighs more than all of them.
        static final int NEW_MAST = 32;
        static final int UNREACHED = 1_000_000;

        final int[] tops = new int[MAX_STATIONS];
        final int[] links = new int[MAX_STATIONS];
        final int[] prices = new int[MAX_STATIONS];
        final int[] costs = new int[MAX_STATIONS];
        int stations = 0;
        int relays = 0;

        /** With newMast 0, none are put up: only the masts that stand make relays. */
        void survey(Profile profile, int newMast) {
            stations = profile.stations;
            relays = 0;
            for (int s = 0; s < stations; s++) {
                boolean bare = profile.masts[s] == 0;
                tops[s] = profile.topOf(s) + (bare ? newMast : 0);
                prices[s] = bare && newMast > 0 ? NEW_MAST + 1 : 1;
                if (!bare || newMast > 0) {
                    relays |= 1 << s;
                }
            }
            for (int s = 0; s < stations; s++) {
                links[s] = linksOf(profile, s);
            }
        }

        private int linksOf(Profile profile, int s) {
            int set = 0;
            for (int t = 0; t < stations; t++) {
                boolean near = t != s && Math.abs(t - s) <= profile.range;
                if (near && profile.pointsSee(s, tops[s], t, tops[t])) {
                    set |= 1 << t;
                }
            }
            return set;
        }

        boolean findChain(int from, int to, Finding into) {
            if (from < 0 || from >= stations) {
                return false;
            }
            findCosts(to);
            if (costs[from] >= UNREACHED) {
                return false;
            }
            into.clear();
            into.append(from);
            int s = from;
            for (int step = 1; step < stations && s != to; step++) {
                s = nextAfter(s, to);
                into.append(s);
            }
            return true;
        }

        /** The cost of the best chain from each station: counted from the end, to choose from the start. */
        private void findCosts(int to) {
            for (int s = 0; s < stations; s++) {
                costs[s] = s == to ? prices[s] : UNREACHED;
            }
            for (int round = 0; round < stations; round++) {
                for (int s = 0; s < stations; s++) {
                    for (int t = 0; t < stations; t++) {
                        if (mayFollow(s, t, to)) {
                            costs[s] = Math.min(costs[s], prices[s] + costs[t]);
                        }
                    }
                }
            }
        }

        private boolean mayFollow(int s, int t, int to) {
            return holds(links[s], t) && (t == to || holds(relays, t));
        }

        /** The least station with which a best chain goes on, so that the sequence is the least one. */
        private int nextAfter(int s, int to) {
            for (int t = 0; t < stations; t++) {
                if (mayFollow(s, t, to) && costs[s] == prices[s] + costs[t]) {
                    return t;
                }
            }
            return to;
        }

        boolean join(int from, int to, int through) {
            return holds(reached(from, through), to);
        }

        private int reached(int from, int through) {
            int set = 1 << from;
            for (int round = 0; round < stations; round++) {
                for (int s = 0; s < stations; s++) {
                    if (s == from || holds(set & through, s)) {
                        set |= links[s];
                    }
                }
            }
            return set;
        }

        /** A relay's mast stands in nobody's way, so to remove it is only to pass that relay no more. */
        int notToBeMissed(int from, int to) {
            int set = 0;
            for (int s = 0; s < stations; s++) {
                boolean between = s != from && s != to && holds(relays, s);
                if (between && !join(from, to, relays & ~(1 << s))) {
                    set |= 1 << s;
                }
            }
            return set;
        }

        int countGroups() {
            int all = (1 << stations) - 1;
            int met = 0;
            int groups = 0;
            for (int s = 0; s < stations; s++) {
                if (!holds(met, s)) {
                    met |= reached(s, all);
                    groups++;
                }
            }
            return groups;
        }
    }

    /** The search for the fewest stations that see all ground. */
    private static final class Cover {
        final int[] views = new int[MAX_STATIONS];
        // At s stands what the stations less than s see together.
        final int[] below = new int[MAX_STATIONS + 1];

        int find(Profile profile, int height) {
            for (int s = 0; s < profile.stations; s++) {
                views[s] = profile.groundsSeen(s, profile.grounds[s] + height);
                below[s + 1] = below[s] | views[s];
            }
            for (int size = 1; size < profile.stations; size++) {
                int set = leastSet(views, below, profile.stations, size, profile.all());
                if (set != NONE) {
                    return set;
                }
            }
            return profile.all();
        }

        /**
         * The least set of at most size stations less than end that see all of missing, or NONE.
         * The greatest station is left out first, as any set without it is less than one with it.
         */
        private static int leastSet(int[] views, int[] below, int end, int size, int missing) {
            if (missing == 0) {
                return 0;
            }
            if (size < 1 || end < 1 || end > MAX_STATIONS || (missing & ~below[end]) != 0) {
                return NONE;
            }
            int without = leastSet(views, below, end - 1, size, missing);
            if (without != NONE) {
                return without;
            }
            int with = leastSet(views, below, end - 1, size - 1, missing & ~views[end - 1]);
            return with == NONE ? NONE : with | 1 << (end - 1);
        }
    }
}
