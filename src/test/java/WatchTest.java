/** Promises 26 and 27: watching the ground. */
public final class WatchTest {
    private static final Check check = new Check();
    private static final int BAD = -2;

    public static void main(String[] args) {
        watch();
        watchInPlace();
        watchFromNeighbors();
        watchLongLine();
        watched();
        check.finish();
    }

    private static void watch() {
        check.promise("promise 26");
        SightRidge x = new SightRidge();
        x.reset(5, 7);
        check.due("watch(1) of a plain", x.watch(1), 1);
        check.finding(x, "watch(1) of a plain", 0);
        SightRidge hills = Check.withProfile("0,10,0,10,0");
        check.due("watch(1)", hills.watch(1), 0b01001);
        check.finding(hills, "watch(1)", 0, 3);
        // The top of 1 has to be 30 to see the ground of 4 behind the hill on 3.
        check.due("watch(19)", hills.watch(19), 0b01001);
        check.due("watch(20)", hills.watch(20), 0b00010);
        hills.setGround(1, 9);
        check.due("watch(20)", hills.watch(20), 0b00100);
        check.finding(hills, "watch(20)", 2);
        check.masts(hills, "after watch()", 0, 0, 0, 0, 0);
        check.due("count(6)", hills.count(6), 2);
        hills.setRange(1);
        check.due("watch(20), which no range limits", hills.watch(20), 0b00100);
        check.error(hills, "watch(0)", () -> hills.watch(0), BAD);
        check.error(hills, "watch(201)", () -> hills.watch(201), BAD);
        check.error(hills, "watch(-1)", () -> hills.watch(-1), BAD);
        check.error(hills, "watch(most)", () -> hills.watch(Integer.MAX_VALUE), BAD);
        check.due("watch(200)", hills.watch(200), 1);
    }

    private static void watchInPlace() {
        check.promise("promise 26");
        SightRidge x = Check.withProfile("0m200,10m200,0m200,10m200,0m200");
        check.due("watch(1) in place of high masts", x.watch(1), 0b01001);
        check.masts(x, "after watch(1)", 200, 200, 200, 200, 200);
        x.setBulge(9);
        // From 3, the hill on 1 stays in view over a bulge of 9 on 2.
        check.due("watch(1) with a bulge", x.watch(1), 0b01001);
    }

    private static void watchFromNeighbors() {
        check.promise("promise 26");
        SightRidge x = Check.withProfile("0,20,0,20,0,100*2,0,20,0,20,0");
        // Each of the two summits sees one side whole, and no other station does.
        check.due("watch(1)", x.watch(1), 0b0000_0110_0000);
        check.finding(x, "watch(1)", 5, 6);
        check.due("watched() as they are now", x.watched(0b0000_0110_0000), 12);
    }

    private static void watchLongLine() {
        check.promise("promise 26");
        SightRidge x = new SightRidge();
        x.reset(20, 0);
        x.setBulge(9);
        // A mast of 1 sees no farther than its neighbors, so seven are needed; the least set of them.
        check.due("watch(1)", x.watch(1), 0b0100_1001_0010_0100_1001);
        check.due("finding(-1)", x.finding(-1), 7);
    }

    private static void watched() {
        check.promise("promise 27");
        SightRidge x = Check.withProfile("0,10,0,10m11,0");
        check.due("watched(0)", x.watched(0), 0);
        check.due("watched(1)", x.watched(0b00001), 2);
        check.due("watched(2)", x.watched(0b00010), 4);
        check.due("watched(4)", x.watched(0b00100), 3);
        check.due("watched(8)", x.watched(0b01000), 4);
        check.due("watched(5)", x.watched(0b00101), 4);
        check.due("watched(17)", x.watched(0b10001), 4);
        check.due("watched(9)", x.watched(0b01001), 5);
        check.due("watched(31)", x.watched(0b11111), 5);
        x.mast(3, 20);
        check.due("watched(8) from a higher mast", x.watched(0b01000), 5);
        x.setRange(1);
        check.due("watched(8), which no range limits", x.watched(0b01000), 5);
        check.error(x, "watched(32)", () -> x.watched(32), BAD);
        check.error(x, "watched(33)", () -> x.watched(33), BAD);
        check.error(x, "watched(-1)", () -> x.watched(-1), BAD);
        check.error(x, "watched(most)", () -> x.watched(Integer.MAX_VALUE), BAD);
        check.error(x, "watched(least)", () -> x.watched(Integer.MIN_VALUE), BAD);
        x.reset(20, 0);
        check.due("watched() by all", x.watched((1 << 20) - 1), 20);
        check.due("watched() by the last", x.watched(1 << 19), 20);
        check.error(x, "watched() by one too many", () -> x.watched(1 << 20), BAD);
    }
}
