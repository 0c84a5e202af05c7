import java.math.BigInteger;
import java.util.ArrayList;
import java.util.List;

/** The edges in the sentences of promises 28 and 29. */
final class NumberEdges {
    private static final int BAD = -2, NONE = -1;

    private final Check check;

    NumberEdges(Check check) {
        this.check = check;
    }

    void all() {
        whatIsCounted();
        leastCounts();
        greatestCounts();
        pairs();
        overflow();
        digestOfFindings();
        digestOfTexts();
        lastCalls();
    }

    /** Twenty stations with the highest masts, in range 1, with a full history. */
    private static SightRidge fullest() {
        SightRidge x = new SightRidge();
        for (int i = 0; i < 9; i++) {
            x.setBulge(i);
        }
        Check.typeAll(x, "999*19m200,999m200");
        x.load();
        x.setRange(1);
        x.setBulge(9);
        return x;
    }

    private static void fillText(SightRidge x) {
        for (int letter = 0; letter < 120; letter++) {
            x.type(127 - letter);
        }
    }

    private void counts(SightRidge x, String when, int... want) {
        for (int what = 0; what < want.length; what++) {
            check.due(when + ": count(" + what + ")", x.count(what), want[what]);
        }
    }

    private void whatIsCounted() {
        check.sentence(28, "Returns the number; BAD.");
        SightRidge x = new SightRidge();
        for (int what : new int[] {-1, 9, 10, Integer.MIN_VALUE, Integer.MAX_VALUE}) {
            check.error(x, "count(" + what + ")", () -> x.count(what), BAD);
        }
    }

    private void leastCounts() {
        check.sentence(28, "`what`: 0 for the number of stations, 1 for that of masts, 2 for the range, 3 for the "
            + "bulge,");
        counts(new SightRidge(), "new", 2, 0, 19, 0, 1, 1, 0, 0, 0);
    }

    private void greatestCounts() {
        check.sentence(28, "6 for the number of states in the history, 7 for the length of the text, 8 for the sum "
            + "of the heights of all masts");
        SightRidge x = fullest();
        fillText(x);
        // Over this bulge masts of 200 on a plain see each other up to a distance of 9.
        counts(x, "full", 20, 20, 1, 9, 135, 19, 10, 120, 4000);
        x.type('1');
        x.setRange(19);
        counts(x, "still full", 20, 20, 19, 9, 135, 135, 10, 120, 4000);
        x.mast(0, 0);
        x.mast(19, 1);
        check.due("count(1) with one less", x.count(1), 19);
        check.due("count(8) with one less and one of 1", x.count(8), 3601);
    }

    private void pairs() {
        check.sentence(28, "4 for the number of pairs of different stations that see each other, 5 for the number of "
            + "pairs in contact,");
        SightRidge x = new SightRidge();
        for (int stations = 2; stations <= 20; stations++) {
            x.reset(stations, 1);
            check.due("count(4) of " + stations, x.count(4), stations * (stations - 1) / 2);
            check.due("count(5) of " + stations, x.count(5), stations * (stations - 1) / 2);
        }
        int contacts = 0;
        for (int range = 1; range <= 19; range++) {
            x.setRange(range);
            contacts += 20 - range;
            check.due("count(4) in range " + range, x.count(4), 190);
            check.due("count(5) in range " + range, x.count(5), contacts);
        }
        x.setBulge(9);
        check.due("count(4) of neighbors alone", x.count(4), 19);
        check.due("count(5) of neighbors alone", x.count(5), 19);
    }

    /** The digest, told from the answers of the other calls. */
    private static long digestOf(SightRidge x, String text) {
        List<Integer> numbers = new ArrayList<>();
        for (int what = 0; what <= 8; what++) {
            numbers.add(x.count(what));
        }
        for (int s = 0; s < x.count(0); s++) {
            for (int what = 0; what <= 5; what++) {
                numbers.add(x.station(s, what));
            }
        }
        numbers.add(x.groups());
        numbers.add(x.farthest());
        for (int i = 0; i < x.finding(NONE); i++) {
            numbers.add(x.finding(i));
        }
        for (int i = 0; i < text.length(); i++) {
            numbers.add((int) text.charAt(i));
        }
        BigInteger h = BigInteger.valueOf(53);
        for (int v : numbers) {
            h = h.multiply(BigInteger.valueOf(31)).add(BigInteger.valueOf(v));
        }
        return h.longValue();
    }

    private void overflow() {
        check.sentence(29, "It begins with h = 53; for each of the following numbers v, in this order, h becomes 31 "
            + "* h + v, in long arithmetic with overflow:");
        check.due("digest() of a new object", new SightRidge().digest(), digestOf(new SightRidge(), ""));
        SightRidge x = fullest();
        check.due("digest() of a full line", x.digest(), digestOf(x, ""));
        x.chain(19, 0);
        StringBuilder text = new StringBuilder();
        for (int i = 0; i < 120; i++) {
            text.append((char) (127 - i));
        }
        fillText(x);
        check.due("digest() with all that there can be", x.digest(), digestOf(x, text.toString()));
        check.due("digest() again", x.digest(), digestOf(x, text.toString()));
    }

    private void digestOfFindings() {
        check.sentence(29, "if there is a finding, its stations in their order;");
        SightRidge x = fullest();
        long none = x.digest();
        x.vital(3, 3);
        check.due("digest() with an empty finding", x.digest(), none);
        x.chain(0, 0);
        check.due("digest() with 0 alone found", x.digest(), 31 * none);
        x.chain(2, 1);
        check.due("digest() with 2 and 1 found", x.digest(), 31 * (31 * none + 2) + 1);
        x.chain(1, 2);
        check.due("digest() with 1 and 2 found", x.digest(), 31 * (31 * none + 1) + 2);
        x.vital(0, 19);
        long set = none;
        for (int s = 1; s <= 18; s++) {
            set = 31 * set + s;
        }
        check.due("digest() with a set found", x.digest(), set);
    }

    private void digestOfTexts() {
        check.sentence(29, "the bytes of the text.");
        SightRidge x = new SightRidge();
        x.type(0);
        check.due("digest() with a byte 0", x.digest(), digestOf(x, "\0"));
        x.type(127);
        check.due("digest() with a byte 127", x.digest(), digestOf(x, "\0\177"));
        x.chain(1, 0);
        check.due("digest() with a finding and a text", x.digest(), digestOf(x, "\0\177"));
        x.clearText();
        check.due("digest() without a text", x.digest(), digestOf(x, ""));
    }

    private void lastCalls() {
        check.sentence(0, "An object is used for at most 512 calls after it has been made;");
        SightRidge x = new SightRidge();
        for (int i = 1; i <= 509; i++) {
            check.due("setGround() as call " + i, x.setGround(0, i), i - 1);
        }
        check.due("undo() as call 510", x.undo(), 9);
        check.due("station(0, 0) as call 511", x.station(0, 0), 508);
        check.due("fault() as call 512", x.fault(), 0);
    }
}
