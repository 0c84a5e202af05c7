/** Promises 14 to 20: properties of stations, and what they see. */
public final class SightTest {
    private static final Check check = new Check();
    private static final int BAD = -2, NONE = -1;
    private static final int[] WRONG = {-1, 5, 31, 32, Integer.MIN_VALUE, Integer.MAX_VALUE};

    public static void main(String[] args) {
        station();
        stationSets();
        stationNeighbors();
        sees();
        seesWithBulge();
        obstacle();
        obstacleTies();
        neededMast();
        growth();
        growthLimits();
        shadow();
        farthest();
        wrongStations();
        check.finish();
    }

    private static void station() {
        check.promise("promise 14");
        SightRidge x = Check.withProfile("5,60m200,7m1");
        check.grounds(x, "loaded", 5, 60, 7);
        check.masts(x, "loaded", 0, 200, 1);
        check.due("station(0, 2)", x.station(0, 2), 5);
        check.due("station(1, 2)", x.station(1, 2), 260);
        check.due("station(2, 2)", x.station(2, 2), 8);
        check.error(x, "station(3, 0)", () -> x.station(3, 0), BAD);
        check.error(x, "station(-1, 0)", () -> x.station(-1, 0), BAD);
        check.error(x, "station(0, 6)", () -> x.station(0, 6), BAD);
        check.error(x, "station(0, -1)", () -> x.station(0, -1), BAD);
    }

    private static void stationSets() {
        check.promise("promise 14");
        SightRidge x = Check.withProfile("0,10,0m10,0,0m40");
        // Over the hill, 0 sees the top of 4, but not its ground.
        check.due("station(0, 3)", x.station(0, 3), 0b10010);
        check.due("station(1, 3)", x.station(1, 3), 0b11101);
        check.due("station(2, 3)", x.station(2, 3), 0b11010);
        check.due("station(3, 3)", x.station(3, 3), 0b10110);
        check.due("station(4, 3)", x.station(4, 3), 0b01111);
        check.due("station(0, 4)", x.station(0, 4), 0b00011);
        check.due("station(1, 4)", x.station(1, 4), 0b11111);
        check.due("station(2, 4)", x.station(2, 4), 0b11110);
        check.due("station(3, 4)", x.station(3, 4), 0b11110);
        check.due("station(4, 4)", x.station(4, 4), 0b11111);
        x.setRange(1);
        check.due("station(1, 3) in range 1", x.station(1, 3), 0b00101);
        check.due("station(4, 3) in range 1", x.station(4, 3), 0b01000);
        check.due("station(4, 4), which no range limits", x.station(4, 4), 0b11111);
        x.setRange(2);
        check.due("station(2, 3) in range 2", x.station(2, 3), 0b11010);
        check.due("station(1, 3) in range 2", x.station(1, 3), 0b01101);
    }

    private static void stationNeighbors() {
        check.promise("promise 14");
        SightRidge x = Check.withProfile("5,3,4m1,5,5m1,9");
        int[] higher = {0, 2, 0, 1, 1, 0};
        for (int s = 0; s < higher.length; s++) {
            check.due("station(" + s + ", 5)", x.station(s, 5), higher[s]);
        }
        x.mast(0, 1);
        x.mast(1, 4);
        check.due("station(0, 5)", x.station(0, 5), 1);
        check.due("station(1, 5)", x.station(1, 5), 0);
        check.due("station(2, 5)", x.station(2, 5), 1);
    }

    private static void sees() {
        check.promise("promise 15");
        SightRidge x = Check.withProfile("0,10,0");
        check.due("sees(0, 2)", x.sees(0, 2), 0);
        check.due("sees(2, 0)", x.sees(2, 0), 0);
        check.due("sees(0, 1)", x.sees(0, 1), 1);
        check.due("sees(1, 1)", x.sees(1, 1), 1);
        x.mast(0, 19);
        check.due("sees(0, 2) over clearance -1", x.sees(0, 2), 0);
        x.mast(0, 20);
        check.due("sees(0, 2) over clearance 0", x.sees(0, 2), 1);
        check.due("sees(2, 0) over clearance 0", x.sees(2, 0), 1);
        x.mast(1, 200);
        check.due("sees(0, 2), as a mast is in nobody's way", x.sees(0, 2), 1);
        x.setRange(1);
        check.due("sees(0, 2), which no range limits", x.sees(0, 2), 1);
        check.error(x, "sees(0, 3)", () -> x.sees(0, 3), BAD);
        check.error(x, "sees(3, 0)", () -> x.sees(3, 0), BAD);
        check.error(x, "sees(-1, 0)", () -> x.sees(-1, 0), BAD);
        check.error(x, "sees(0, -1)", () -> x.sees(0, -1), BAD);
        check.error(x, "sees(3, 3)", () -> x.sees(3, 3), BAD);
        SightRidge far = Check.withProfile("0*3,30,0*2");
        far.mast(0, 30);
        // At 3, clearance is 30 * 2 + q * 3 - 5 * 30.
        far.mast(5, 29);
        check.due("sees(0, 5) below the hill", far.sees(0, 5), 0);
        far.mast(5, 30);
        check.due("sees(0, 5) over the hill", far.sees(0, 5), 1);
        check.due("sees(5, 0) over the hill", far.sees(5, 0), 1);
    }

    private static void seesWithBulge() {
        check.promise("promise 15");
        SightRidge x = new SightRidge();
        x.reset(5, 3);
        check.due("sees(0, 4) without a bulge", x.sees(0, 4), 1);
        x.setBulge(2);
        check.due("sees(0, 4)", x.sees(0, 4), 0);
        check.due("sees(0, 1)", x.sees(0, 1), 1);
        check.due("sees(2, 2)", x.sees(2, 2), 1);
        // In the middle the bulge is 2 * 2 * 2, so the tops have to be 8 higher.
        x.mast(0, 8);
        x.mast(4, 7);
        check.due("sees(0, 4) with masts of 8 and 7", x.sees(0, 4), 0);
        x.mast(4, 8);
        check.due("sees(0, 4) with masts of 8 and 8", x.sees(0, 4), 1);
    }

    private static void obstacle() {
        check.promise("promise 16");
        SightRidge x = Check.withProfile("0,5,6,5,0m9");
        // Clearances for tops 0 and 9: 9 * k - 4 * g.
        check.due("obstacle(0, 4, 0)", x.obstacle(0, 4, 0), 1);
        check.due("obstacle(0, 4, 1)", x.obstacle(0, 4, 1), -11);
        check.due("obstacle(4, 0, 0)", x.obstacle(4, 0, 0), 1);
        check.due("obstacle(4, 0, 1)", x.obstacle(4, 0, 1), -11);
        x.setGround(2, 8);
        check.due("obstacle(0, 4, 0)", x.obstacle(0, 4, 0), 2);
        check.due("obstacle(0, 4, 1)", x.obstacle(0, 4, 1), -14);
        check.due("obstacle(1, 3, 0)", x.obstacle(1, 3, 0), 2);
        check.due("obstacle(1, 3, 1)", x.obstacle(1, 3, 1), -6);
        x.mast(1, 20);
        check.due("obstacle(1, 3, 1) in clear view", x.obstacle(1, 3, 1), 14);
        x.setBulge(3);
        check.due("obstacle(1, 3, 1) with a bulge", x.obstacle(1, 3, 1), 8);
        check.due("obstacle(0, 1, 0)", x.obstacle(0, 1, 0), NONE);
        check.due("obstacle(0, 1, 1)", x.obstacle(0, 1, 1), NONE);
        check.due("obstacle(3, 2, 1)", x.obstacle(3, 2, 1), NONE);
        check.error(x, "obstacle(1, 1, 0)", () -> x.obstacle(1, 1, 0), BAD);
        check.error(x, "obstacle(0, 4, 2)", () -> x.obstacle(0, 4, 2), BAD);
        check.error(x, "obstacle(0, 4, -1)", () -> x.obstacle(0, 4, -1), BAD);
        check.error(x, "obstacle(0, 1, 2)", () -> x.obstacle(0, 1, 2), BAD);
        check.error(x, "obstacle(0, 5, 0)", () -> x.obstacle(0, 5, 0), BAD);
        check.error(x, "obstacle(-1, 4, 0)", () -> x.obstacle(-1, 4, 0), BAD);
    }

    private static void obstacleTies() {
        check.promise("promise 16");
        SightRidge x = Check.withProfile("0,5,5,0");
        check.due("obstacle(0, 3, 0)", x.obstacle(0, 3, 0), 1);
        check.due("obstacle(3, 0, 0)", x.obstacle(3, 0, 0), 1);
        check.due("obstacle(3, 0, 1)", x.obstacle(3, 0, 1), -15);
    }

    private static void neededMast() {
        check.promise("promise 17");
        SightRidge x = Check.withProfile("0m50,10,0");
        check.due("neededMast(0, 2)", x.neededMast(0, 2), 20);
        check.due("neededMast(2, 0), which sees it already", x.neededMast(2, 0), 0);
        x.mast(0, 5);
        check.due("neededMast(2, 0) over a mast of 5", x.neededMast(2, 0), 15);
        check.due("neededMast(0, 2) whatever its own mast", x.neededMast(0, 2), 20);
        check.due("neededMast(0, 1)", x.neededMast(0, 1), 0);
        check.masts(x, "after neededMast()", 5, 0, 0);
        x.setGround(1, 100);
        check.due("neededMast(0, 2) of 200", x.neededMast(0, 2), 200);
        check.due("neededMast(2, 0) of 195", x.neededMast(2, 0), 195);
        x.setRange(1);
        check.due("neededMast(0, 2), which no range limits", x.neededMast(0, 2), 200);
        x.setGround(1, 101);
        check.due("neededMast(0, 2) of 202", x.neededMast(0, 2), NONE);
        check.error(x, "neededMast(0, 0)", () -> x.neededMast(0, 0), BAD);
        check.error(x, "neededMast(0, 3)", () -> x.neededMast(0, 3), BAD);
        check.error(x, "neededMast(-1, 2)", () -> x.neededMast(-1, 2), BAD);
        SightRidge far = Check.withProfile("0,0,9,0");
        // At 2, p * 1 + 0 * 2 - 3 * 9; at the other end two thirds of the way count for it.
        check.due("neededMast(0, 3)", far.neededMast(0, 3), 27);
        check.due("neededMast(3, 0), rounded up", far.neededMast(3, 0), 14);
    }

    private static void growthIs(SightRidge x, int a, int b, int first, int other) {
        String pair = "growth(" + a + ", " + b + ", ";
        check.due(pair + "0)", x.growth(a, b, 0), first + other);
        check.due(pair + "1)", x.growth(a, b, 1), first);
        check.due(pair + "2)", x.growth(a, b, 2), other);
    }

    private static void growth() {
        check.promise("promise 18");
        SightRidge x = Check.withProfile("0,10,0");
        growthIs(x, 0, 2, 0, 20);
        growthIs(x, 2, 0, 0, 20);
        growthIs(x, 0, 1, 0, 0);
        x.mast(2, 7);
        growthIs(x, 0, 2, 0, 13);
        x.mast(0, 13);
        growthIs(x, 0, 2, 0, 0);
        check.masts(x, "after growth()", 13, 0, 7);
        SightRidge near = Check.withProfile("0,10,0,0");
        growthIs(near, 0, 3, 15, 0);
        growthIs(near, 3, 0, 0, 15);
        near.setGround(1, 9);
        // 2 * p + q has to be 27: 14 + 0 and 13 + 1 have the least sum.
        growthIs(near, 0, 3, 13, 1);
        growthIs(near, 3, 0, 0, 14);
        near.setRange(1);
        growthIs(near, 0, 3, 13, 1);
        check.error(x, "growth(0, 0, 0)", () -> x.growth(0, 0, 0), BAD);
        check.error(x, "growth(0, 2, 3)", () -> x.growth(0, 2, 3), BAD);
        check.error(x, "growth(0, 2, -1)", () -> x.growth(0, 2, -1), BAD);
        check.error(x, "growth(0, 3, 0)", () -> x.growth(0, 3, 0), BAD);
        check.error(x, "growth(-1, 2, 0)", () -> x.growth(-1, 2, 0), BAD);
    }

    private static void growthLimits() {
        check.promise("promise 18");
        SightRidge x = Check.withProfile("0,150,0");
        growthIs(x, 0, 2, 100, 200);
        x.mast(2, 150);
        growthIs(x, 0, 2, 100, 50);
        growthIs(x, 2, 0, 0, 150);
        x.mast(2, 200);
        growthIs(x, 0, 2, 100, 0);
        x.setGround(1, 200);
        growthIs(x, 0, 2, 200, 0);
        x.mast(2, 0);
        growthIs(x, 0, 2, 200, 200);
        x.setGround(1, 201);
        for (int what = 0; what <= 2; what++) {
            check.due("growth(0, 2, " + what + ") too high", x.growth(0, 2, what), NONE);
        }
        SightRidge highest = Check.withProfile("0m200,200,0m200");
        growthIs(highest, 0, 2, 0, 0);
        highest.setGround(1, 201);
        check.due("growth(0, 2, 0) of the highest masts", highest.growth(0, 2, 0), NONE);
    }

    private static void shadowIs(SightRidge x, int station, int i, int first, int last) {
        check.due("shadow(" + station + ", " + i + ", 0)", x.shadow(station, i, 0), first);
        check.due("shadow(" + station + ", " + i + ", 1)", x.shadow(station, i, 1), last);
    }

    private static void shadow() {
        check.promise("promise 19");
        SightRidge x = Check.withProfile("0,10,0,0,50,0");
        shadowIs(x, 0, 0, 2, 3);
        shadowIs(x, 0, 1, 5, 5);
        shadowIs(x, 0, 2, NONE, NONE);
        shadowIs(x, 2, 0, 0, 0);
        shadowIs(x, 2, 1, 5, 5);
        shadowIs(x, 2, 2, NONE, NONE);
        shadowIs(x, 5, 0, 0, 3);
        shadowIs(x, 5, 1, NONE, NONE);
        shadowIs(x, 4, 0, NONE, NONE);
        shadowIs(x, 0, Integer.MAX_VALUE, NONE, NONE);
        x.mast(5, 100);
        shadowIs(x, 5, 0, NONE, NONE);
        shadowIs(x, 0, 1, 5, 5);
        x.setRange(1);
        shadowIs(x, 0, 0, 2, 3);
        check.error(x, "shadow(6, 0, 0)", () -> x.shadow(6, 0, 0), BAD);
        check.error(x, "shadow(-1, 0, 0)", () -> x.shadow(-1, 0, 0), BAD);
        check.error(x, "shadow(0, -1, 0)", () -> x.shadow(0, -1, 0), BAD);
        check.error(x, "shadow(0, 0, 2)", () -> x.shadow(0, 0, 2), BAD);
        check.error(x, "shadow(0, 0, -1)", () -> x.shadow(0, 0, -1), BAD);
        check.error(x, "shadow(0, 9, 2)", () -> x.shadow(0, 9, 2), BAD);
        SightRidge full = Check.withProfile("0,9,0*18");
        shadowIs(full, 0, 0, 2, 19);
        shadowIs(full, 19, 0, 0, 0);
    }

    private static void farthest() {
        check.promise("promise 20");
        SightRidge x = new SightRidge();
        check.due("farthest() of two", x.farthest(), 1);
        x.reset(20, 5);
        check.due("farthest() of all", x.farthest(), 19);
        x.setRange(7);
        check.due("farthest() in range 7", x.farthest(), 7);
        x.setGround(1, 9);
        check.due("farthest() behind a hill", x.farthest(), 108);
        x.setGround(3, 9);
        check.due("farthest() between hills", x.farthest(), 310);
        x.setRange(1);
        check.due("farthest() in range 1", x.farthest(), 1);
        x.setRange(19);
        check.due("farthest() over all", x.farthest(), 319);
        SightRidge late = Check.withProfile("0,1,9,1,0,1,0m4");
        check.due("farthest() late on the line", late.farthest(), 206);
    }

    private static void wrongStations() {
        SightRidge x = new SightRidge();
        x.reset(5, 1);
        for (int wrong : WRONG) {
            check.promise("promise 14");
            check.error(x, "station(" + wrong + ", 0)", () -> x.station(wrong, 0), BAD);
            check.promise("promise 15");
            check.error(x, "sees(" + wrong + ", 0)", () -> x.sees(wrong, 0), BAD);
            check.error(x, "sees(0, " + wrong + ")", () -> x.sees(0, wrong), BAD);
            check.promise("promise 16");
            check.error(x, "obstacle(" + wrong + ", 0, 0)", () -> x.obstacle(wrong, 0, 0), BAD);
            check.error(x, "obstacle(0, " + wrong + ", 0)", () -> x.obstacle(0, wrong, 0), BAD);
            check.promise("promise 17");
            check.error(x, "neededMast(" + wrong + ", 0)", () -> x.neededMast(wrong, 0), BAD);
            check.error(x, "neededMast(0, " + wrong + ")", () -> x.neededMast(0, wrong), BAD);
            check.promise("promise 18");
            check.error(x, "growth(" + wrong + ", 0, 0)", () -> x.growth(wrong, 0, 0), BAD);
            check.error(x, "growth(0, " + wrong + ", 0)", () -> x.growth(0, wrong, 0), BAD);
            check.promise("promise 19");
            check.error(x, "shadow(" + wrong + ", 0, 0)", () -> x.shadow(wrong, 0, 0), BAD);
        }
    }
}
