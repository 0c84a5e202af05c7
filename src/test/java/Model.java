import java.util.ArrayDeque;
import java.util.ArrayList;
import java.util.Deque;
import java.util.List;
import java.util.regex.Matcher;
import java.util.regex.Pattern;

/** The document said a second time, by the plainest search there is, for ModelTest to compare with. */
final class Model {
    private static final int BAD = -2, STATE = -3, FULL = -4, NONE = -1;
    private static final String PART = " *\\d{1,3} *(\\* *\\d{1,3} *)?(m *\\d{1,3} *)?";
    private static final Pattern PROFILE = Pattern.compile(PART + "(," + PART + ")+", Pattern.DOTALL);
    private static final Pattern NUMBER = Pattern.compile("\\d{1,3}");

    private record State(int[] ground, int[] mast, int range, int bulge) {
        State copy() {
            return new State(ground.clone(), mast.clone(), range, bulge);
        }
    }

    private record Chain(List<Integer> stations, int masts) {
        boolean isBetterThan(Chain other) {
            if (other == null || masts != other.masts) {
                return other == null || masts < other.masts;
            }
            if (stations.size() != other.stations.size()) {
                return stations.size() < other.stations.size();
            }
            for (int i = 0; i < stations.size(); i++) {
                if (!stations.get(i).equals(other.stations.get(i))) {
                    return stations.get(i) < other.stations.get(i);
                }
            }
            return false;
        }
    }

    private State now = new State(new int[2], new int[2], 19, 0);
    private final Deque<State> history = new ArrayDeque<>();
    private final StringBuilder text = new StringBuilder();
    private List<Integer> found = null;

    private int size() {
        return now.ground.length;
    }

    private boolean no(int s) {
        return s < 0 || s >= size();
    }

    private static boolean out(int v, int least, int most) {
        return v < least || v > most;
    }

    private void change(State next) {
        history.addLast(now);
        if (history.size() > 10) {
            history.removeFirst();
        }
        now = next;
    }

    int reset(int stations, int ground) {
        if (out(stations, 2, 20) || out(ground, 0, 999)) {
            return BAD;
        }
        int[] grounds = new int[stations];
        java.util.Arrays.fill(grounds, ground);
        change(new State(grounds, new int[stations], now.range, now.bulge));
        return stations;
    }

    int setGround(int station, int ground) {
        if (no(station) || out(ground, 0, 999)) {
            return BAD;
        }
        int before = now.ground[station];
        change(now.copy());
        now.ground[station] = ground;
        return before;
    }

    int slope(int a, int b) {
        if (no(a) || no(b) || b <= a) {
            return BAD;
        }
        State next = now.copy();
        int different = 0;
        for (int k = a + 1; k < b; k++) {
            int rise = now.ground[b] - now.ground[a];
            int part = Math.abs(rise) * (k - a) / (b - a);
            next.ground[k] = now.ground[a] + (rise < 0 ? -part : part);
            different += next.ground[k] == now.ground[k] ? 0 : 1;
        }
        change(next);
        return different;
    }

    int mast(int station, int height) {
        if (no(station) || out(height, 0, 200)) {
            return BAD;
        }
        int before = now.mast[station];
        change(now.copy());
        now.mast[station] = height;
        return before;
    }

    int reverse() {
        State next = now.copy();
        int different = 0;
        for (int s = 0; s < size(); s++) {
            next.ground[s] = now.ground[size() - 1 - s];
            next.mast[s] = now.mast[size() - 1 - s];
            different += next.ground[s] == now.ground[s] && next.mast[s] == now.mast[s] ? 0 : 1;
        }
        change(next);
        return different;
    }

    int setRange(int range) {
        if (out(range, 1, 19)) {
            return BAD;
        }
        int before = now.range;
        change(new State(now.ground.clone(), now.mast.clone(), range, now.bulge));
        return before;
    }

    int setBulge(int bulge) {
        if (out(bulge, 0, 9)) {
            return BAD;
        }
        int before = now.bulge;
        change(new State(now.ground.clone(), now.mast.clone(), now.range, bulge));
        return before;
    }

    int undo() {
        if (history.isEmpty()) {
            return STATE;
        }
        now = history.removeLast();
        return history.size();
    }

    int type(int letter) {
        if (out(letter, 0, 127)) {
            return BAD;
        }
        if (text.length() == 120) {
            return FULL;
        }
        text.append((char) letter);
        return text.length();
    }

    int clearText() {
        int before = text.length();
        text.setLength(0);
        return before;
    }

    int fault() {
        int syntax = faultOfForm();
        int range = faultOfNumbers(text.substring(0, syntax == NONE ? text.length() : syntax));
        return range == NONE ? syntax : range;
    }

    /** The first byte after which no text can go on to be a profile. */
    private int faultOfForm() {
        for (int end = 1; end <= text.length(); end++) {
            Matcher matcher = PROFILE.matcher(text.substring(0, end));
            if (!matcher.matches() && !matcher.hitEnd()) {
                return end - 1;
            }
        }
        return PROFILE.matcher(text).matches() ? NONE : text.length();
    }

    private int faultOfNumbers(String sound) {
        Matcher number = NUMBER.matcher(sound);
        int closed = 0;
        int open = 0;
        while (number.find()) {
            int value = Integer.parseInt(number.group());
            String before = sound.substring(0, number.start()).trim();
            char kind = before.isEmpty() ? ',' : before.charAt(before.length() - 1);
            if (kind == ',') {
                closed += open;
                open = 1;
            } else if (kind == '*') {
                open = value;
            }
            boolean few = kind == '*' && value < 1;
            boolean noMast = kind == 'm' && (value < 1 || value > 200);
            if (few || noMast || closed + open > 20) {
                return number.start();
            }
        }
        return NONE;
    }

    int load() {
        if (fault() != NONE) {
            return STATE;
        }
        List<int[]> stations = new ArrayList<>();
        for (String part : text.toString().replace(" ", "").split(",")) {
            String[] byMast = part.split("m");
            String[] byTimes = byMast[0].split("\\*");
            int times = byTimes.length > 1 ? Integer.parseInt(byTimes[1]) : 1;
            int mast = byMast.length > 1 ? Integer.parseInt(byMast[1]) : 0;
            for (int i = 0; i < times; i++) {
                stations.add(new int[] {Integer.parseInt(byTimes[0]), mast});
            }
        }
        int[] grounds = stations.stream().mapToInt(s -> s[0]).toArray();
        int[] masts = stations.stream().mapToInt(s -> s[1]).toArray();
        change(new State(grounds, masts, now.range, now.bulge));
        text.setLength(0);
        return size();
    }

    private static long clearance(State at, int a, int p, int b, int q, int k) {
        return (long) p * (b - k) + (long) q * (k - a)
            - (long) (b - a) * (at.ground[k] + at.bulge * (k - a) * (b - k));
    }

    private static boolean see(State at, int a, int p, int b, int q) {
        if (a > b) {
            return see(at, b, q, a, p);
        }
        for (int k = a + 1; k < b; k++) {
            if (clearance(at, a, p, b, q, k) < 0) {
                return false;
            }
        }
        return true;
    }

    private static int top(State at, int s) {
        return at.ground[s] + at.mast[s];
    }

    private static boolean topsSee(State at, int a, int b) {
        return see(at, a, top(at, a), b, top(at, b));
    }

    private static boolean contact(State at, int a, int b) {
        return a != b && Math.abs(a - b) <= at.range && topsSee(at, a, b);
    }

    private static int seenBy(State at, int s) {
        int set = 1 << s;
        for (int t = 0; t < at.ground.length; t++) {
            if (t != s && see(at, s, top(at, s), t, at.ground[t])) {
                set |= 1 << t;
            }
        }
        return set;
    }

    int station(int s, int what) {
        if (no(s) || out(what, 0, 5)) {
            return BAD;
        }
        int contacts = 0;
        int higher = 0;
        for (int t = 0; t < size(); t++) {
            contacts |= contact(now, s, t) ? 1 << t : 0;
            higher += Math.abs(s - t) == 1 && top(now, t) > top(now, s) ? 1 : 0;
        }
        return new int[] {now.ground[s], now.mast[s], top(now, s), contacts, seenBy(now, s), higher}[what];
    }

    int sees(int a, int b) {
        if (no(a) || no(b)) {
            return BAD;
        }
        return a == b || topsSee(now, a, b) ? 1 : 0;
    }

    int obstacle(int a, int b, int what) {
        if (no(a) || no(b) || a == b || out(what, 0, 1)) {
            return BAD;
        }
        int low = Math.min(a, b);
        int high = Math.max(a, b);
        int worst = NONE;
        long least = Long.MAX_VALUE;
        for (int k = low + 1; k < high; k++) {
            long clearance = clearance(now, low, top(now, low), high, top(now, high), k);
            if (clearance < least) {
                worst = k;
                least = clearance;
            }
        }
        return worst == NONE || what == 0 ? worst : (int) least;
    }

    int neededMast(int a, int b) {
        if (no(a) || no(b) || a == b) {
            return BAD;
        }
        State tried = now.copy();
        for (int height = 0; height <= 200; height++) {
            tried.mast[a] = height;
            if (topsSee(tried, a, b)) {
                return height;
            }
        }
        return NONE;
    }

    int growth(int a, int b, int what) {
        if (no(a) || no(b) || a == b || out(what, 0, 2)) {
            return BAD;
        }
        for (int sum = 0; sum <= 400; sum++) {
            for (int first = 0; first <= sum; first++) {
                int other = sum - first;
                boolean allowed = now.mast[a] + first <= 200 && now.mast[b] + other <= 200;
                if (allowed && see(now, a, top(now, a) + first, b, top(now, b) + other)) {
                    return new int[] {sum, first, other}[what];
                }
            }
        }
        return NONE;
    }

    int shadow(int s, int i, int what) {
        if (no(s) || i < 0 || out(what, 0, 1)) {
            return BAD;
        }
        int seen = seenBy(now, s);
        List<int[]> shadows = new ArrayList<>();
        for (int first = 0; first < size(); first++) {
            int last = first;
            while (last < size() && (seen >> last & 1) == 0) {
                last++;
            }
            if (last > first) {
                shadows.add(new int[] {first, last - 1});
                first = last;
            }
        }
        return i < shadows.size() ? shadows.get(i)[what] : NONE;
    }

    int farthest() {
        for (int distance = size() - 1; distance > 0; distance--) {
            for (int a = 0; a + distance < size(); a++) {
                if (contact(now, a, a + distance)) {
                    return 100 * a + a + distance;
                }
            }
        }
        throw new IllegalStateException("neighbors are in contact");
    }

    /** Chains from the start on, each station keeping the best one to it until none gets better. */
    private static Chain bestChain(State at, int from, int to, boolean[] passable, int newMast) {
        State built = at.copy();
        int[] price = new int[at.ground.length];
        for (int s = 0; s < at.ground.length; s++) {
            if (at.mast[s] == 0 && newMast > 0) {
                built.mast[s] = newMast;
                price[s] = 1;
            }
        }
        Chain[] best = new Chain[at.ground.length];
        best[from] = new Chain(List.of(from), price[from]);
        for (boolean better = true; better;) {
            better = false;
            for (int s = 0; s < best.length; s++) {
                for (int t = 0; t < best.length; t++) {
                    boolean open = best[s] != null && (s == from || passable[s]) && !best[s].stations.contains(t);
                    if (open && contact(built, s, t)) {
                        List<Integer> longer = new ArrayList<>(best[s].stations);
                        longer.add(t);
                        Chain next = new Chain(longer, best[s].masts + price[t]);
                        if (next.isBetterThan(best[t])) {
                            best[t] = next;
                            better = true;
                        }
                    }
                }
            }
        }
        return best[to];
    }

    /** All sequences of different stations, for lines that are short enough. */
    private static Chain bestOfAll(State at, List<Integer> begun, int to, boolean[] passable, int newMast) {
        int last = begun.get(begun.size() - 1);
        if (last == to) {
            int bare = 0;
            for (int s : begun) {
                bare += at.mast[s] == 0 && newMast > 0 ? 1 : 0;
            }
            return new Chain(List.copyOf(begun), bare);
        }
        if (begun.size() > 1 && !passable[last]) {
            return null;
        }
        Chain best = null;
        for (int t = 0; t < at.ground.length; t++) {
            State built = at.copy();
            for (int s : new int[] {last, t}) {
                built.mast[s] = at.mast[s] == 0 ? newMast : at.mast[s];
            }
            if (!begun.contains(t) && contact(built, last, t)) {
                begun.add(t);
                Chain next = bestOfAll(at, begun, to, passable, newMast);
                begun.remove(begun.size() - 1);
                best = next != null && next.isBetterThan(best) ? next : best;
            }
        }
        return best;
    }

    private static Chain find(State at, int from, int to, int newMast) {
        boolean[] passable = new boolean[at.ground.length];
        for (int s = 0; s < passable.length; s++) {
            passable[s] = newMast > 0 || at.mast[s] > 0;
        }
        if (at.ground.length <= 6) {
            return bestOfAll(at, new ArrayList<>(List.of(from)), to, passable, newMast);
        }
        return bestChain(at, from, to, passable, newMast);
    }

    int chain(int from, int to) {
        if (no(from) || no(to)) {
            return BAD;
        }
        Chain best = find(now, from, to, 0);
        if (best == null) {
            return NONE;
        }
        found = best.stations;
        return found.size();
    }

    int newMasts(int from, int to, int height) {
        if (no(from) || no(to) || out(height, 1, 200)) {
            return BAD;
        }
        Chain best = find(now, from, to, height);
        if (best == null) {
            return NONE;
        }
        found = best.stations;
        return best.masts;
    }

    int vital(int from, int to) {
        if (no(from) || no(to)) {
            return BAD;
        }
        if (find(now, from, to, 0) == null) {
            return STATE;
        }
        int set = 0;
        for (int s = 0; s < size(); s++) {
            if (s != from && s != to && now.mast[s] > 0) {
                State without = now.copy();
                without.mast[s] = 0;
                set |= find(without, from, to, 0) == null ? 1 << s : 0;
            }
        }
        found = members(set);
        return set;
    }

    private static List<Integer> members(int set) {
        List<Integer> members = new ArrayList<>();
        for (int s = 0; s < 32; s++) {
            if ((set >>> s & 1) == 1) {
                members.add(s);
            }
        }
        return members;
    }

    int finding(int i) {
        if (i < -1) {
            return BAD;
        }
        if (found == null) {
            return STATE;
        }
        if (i == -1) {
            return found.size();
        }
        return i < found.size() ? found.get(i) : NONE;
    }

    int groups() {
        int[] group = new int[size()];
        for (int s = 0; s < size(); s++) {
            group[s] = s;
        }
        for (int a = 0; a < size(); a++) {
            for (int b = 0; b < size(); b++) {
                if (contact(now, a, b)) {
                    int gone = group[b];
                    int kept = group[a];
                    for (int s = 0; s < size(); s++) {
                        group[s] = group[s] == gone ? kept : group[s];
                    }
                }
            }
        }
        return (int) java.util.Arrays.stream(group).distinct().count();
    }

    int watch(int height) {
        if (out(height, 1, 200)) {
            return BAD;
        }
        int[] views = new int[size()];
        for (int s = 0; s < size(); s++) {
            State with = now.copy();
            with.mast[s] = height;
            views[s] = seenBy(with, s);
        }
        int all = (1 << size()) - 1;
        int[] union = new int[all + 1];
        int best = all;
        for (int set = 1; set <= all; set++) {
            union[set] = union[set & (set - 1)] | views[Integer.numberOfTrailingZeros(set)];
            if (union[set] == all && Integer.bitCount(set) < Integer.bitCount(best)) {
                best = set;
            }
        }
        found = members(best);
        return best;
    }

    int watched(int stations) {
        int seen = 0;
        for (int s : members(stations)) {
            if (no(s)) {
                return BAD;
            }
            seen |= seenBy(now, s);
        }
        return members(seen).size();
    }

    int count(int what) {
        int masts = 0;
        int heights = 0;
        int pairs = 0;
        int contacts = 0;
        for (int a = 0; a < size(); a++) {
            masts += now.mast[a] > 0 ? 1 : 0;
            heights += now.mast[a];
            for (int b = 0; b < a; b++) {
                pairs += topsSee(now, a, b) ? 1 : 0;
                contacts += contact(now, a, b) ? 1 : 0;
            }
        }
        int[] counts = {size(), masts, now.range, now.bulge, pairs, contacts, history.size(), text.length(), heights};
        return out(what, 0, 8) ? BAD : counts[what];
    }

    long digest() {
        List<Integer> numbers = new ArrayList<>();
        for (int what = 0; what <= 8; what++) {
            numbers.add(count(what));
        }
        for (int s = 0; s < size(); s++) {
            for (int what = 0; what <= 5; what++) {
                numbers.add(station(s, what));
            }
        }
        numbers.add(groups());
        numbers.add(farthest());
        if (found != null) {
            numbers.addAll(found);
        }
        text.chars().forEach(numbers::add);
        long h = 53;
        for (int v : numbers) {
            h = 31 * h + v;
        }
        return h;
    }
}
