/** Promises 28 and 29: numbers and the digest. */
public final class NumbersTest {
    private static final Check check = new Check();
    private static final int BAD = -2, NONE = -1;

    public static void main(String[] args) {
        count();
        countPairs();
        digestOfNewObject();
        digestFollowsTheOrder();
        digestOfFindingAndText();
        digestChangesNothing();
        check.finish();
    }

    private static void count() {
        check.promise("promise 28");
        SightRidge x = Check.withProfile("1*3,2*4m5,3m200");
        x.setRange(6);
        x.setBulge(2);
        Check.typeAll(x, "12345");
        check.due("count(0)", x.count(0), 8);
        check.due("count(1)", x.count(1), 5);
        check.due("count(2)", x.count(2), 6);
        check.due("count(3)", x.count(3), 2);
        check.due("count(6)", x.count(6), 3);
        check.due("count(7)", x.count(7), 5);
        check.due("count(8)", x.count(8), 220);
        check.error(x, "count(-1)", () -> x.count(-1), BAD);
        check.error(x, "count(9)", () -> x.count(9), BAD);
        check.error(x, "count(least)", () -> x.count(Integer.MIN_VALUE), BAD);
        check.error(x, "count(most)", () -> x.count(Integer.MAX_VALUE), BAD);
        SightRidge most = Check.withProfile("1,2*19m200");
        check.due("count(8) of many", most.count(8), 3800);
        check.due("count(1) of many", most.count(1), 19);
    }

    private static void countPairs() {
        check.promise("promise 28");
        SightRidge x = new SightRidge();
        x.reset(20, 4);
        check.due("count(4) of a plain", x.count(4), 190);
        check.due("count(5) of a plain", x.count(5), 190);
        x.setRange(3);
        check.due("count(4) in range 3", x.count(4), 190);
        check.due("count(5) in range 3", x.count(5), 19 + 18 + 17);
        x.setRange(1);
        check.due("count(5) in range 1", x.count(5), 19);
        x.setBulge(1);
        check.due("count(4) with a bulge", x.count(4), 19);
        SightRidge hill = Check.withProfile("0,10,0m10,0,0m40");
        check.due("count(4)", hill.count(4), 8);
        check.due("count(5)", hill.count(5), 8);
        hill.setRange(2);
        check.due("count(4) in range 2", hill.count(4), 8);
        check.due("count(5) in range 2", hill.count(5), 6);
    }

    private static long digestOf(long... numbers) {
        long h = 53;
        for (long v : numbers) {
            h = 31 * h + v;
        }
        return h;
    }

    private static void digestOfNewObject() {
        check.promise("promise 29");
        SightRidge x = new SightRidge();
        long due = digestOf(2, 0, 19, 0, 1, 1, 0, 0, 0, 0, 0, 0, 2, 3, 0, 0, 0, 0, 1, 3, 0, 1, 1);
        check.due("digest()", x.digest(), due);
    }

    private static void digestFollowsTheOrder() {
        check.promise("promise 29");
        SightRidge x = Check.withProfile("7m3,999,8");
        x.setRange(2);
        x.setBulge(5);
        long due = digestOf(3, 1, 2, 5, 2, 2, 3, 0, 3,
            7, 3, 10, 2, 3, 1,
            999, 0, 999, 5, 7, 0,
            8, 0, 8, 2, 6, 1,
            1, 1);
        check.due("digest()", x.digest(), due);
    }

    private static void digestOfFindingAndText() {
        check.promise("promise 29");
        SightRidge x = new SightRidge();
        Check.typeAll(x, "7 ");
        x.type(127);
        x.type(0);
        x.chain(1, 0);
        long due = digestOf(2, 0, 19, 0, 1, 1, 0, 4, 0, 0, 0, 0, 2, 3, 0, 0, 0, 0, 1, 3, 0, 1, 1,
            1, 0, '7', ' ', 127, 0);
        check.due("digest()", x.digest(), due);
        x.vital(0, 1);
        long empty = digestOf(2, 0, 19, 0, 1, 1, 0, 4, 0, 0, 0, 0, 2, 3, 0, 0, 0, 0, 1, 3, 0, 1, 1,
            '7', ' ', 127, 0);
        check.due("digest() with an empty finding", x.digest(), empty);
    }

    private static void digestChangesNothing() {
        check.promise("promise 29");
        SightRidge x = Check.withProfile("1*9m2,3");
        x.setRange(3);
        x.chain(9, 0);
        long first = x.digest();
        check.due("digest() again", x.digest(), first);
        check.finding(x, "after digest()", 9, 6, 3, 0);
        check.due("count(6)", x.count(6), 2);
        check.due("finding(-1)", x.finding(NONE), 4);
    }
}
