/** The edges in the sentences of promises 14 to 20, and in those on sets, clearance, sight and contact. */
final class SightEdges {
    private static final int BAD = -2, NONE = -1;

    private final Check check;

    SightEdges(Check check) {
        this.check = check;
    }

    void all() {
        sets();
        clearance();
        sight();
        neighborsAndSelf();
        contact();
        groundOfOthers();
        station();
        neighbors();
        sees();
        obstacle();
        obstacleTies();
        neededMast();
        growth();
        growthLimits();
        shadow();
        manyShadows();
        farthest();
    }

    private static SightRidge line(int stations, int ground) {
        SightRidge x = new SightRidge();
        x.reset(stations, ground);
        return x;
    }

    private void sets() {
        check.sentence(0, "Sets of stations are written as numbers in which bit s stands for station s.");
        SightRidge x = line(20, 0);
        for (int s = 0; s < 20; s++) {
            check.due("station(" + s + ", 3)", x.station(s, 3), 0xFFFFF & ~(1 << s));
            check.due("station(" + s + ", 4)", x.station(s, 4), 0xFFFFF);
        }
        x.setRange(1);
        check.due("station(0, 3) in range 1", x.station(0, 3), 0x00002);
        check.due("station(19, 3) in range 1", x.station(19, 3), 0x40000);
        check.due("station(18, 3) in range 1", x.station(18, 3), 0xA0000);
    }

    private void clearance() {
        check.sentence(0, "is p * (b - k) + q * (k - a) - (b - a) * (g + bulge * (k - a) * (b - k)), where g is the "
            + "ground height of k.");
        SightRidge low = line(20, 0);
        low.setGround(10, 999);
        low.setBulge(9);
        check.due("obstacle(0, 19, 0), the least there is", low.obstacle(0, 19, 0), 10);
        check.due("obstacle(0, 19, 1), the least there is", low.obstacle(0, 19, 1), -19 * (999 + 9 * 10 * 9));
        check.due("obstacle(19, 0, 1)", low.obstacle(19, 0, 1), -19 * (999 + 9 * 10 * 9));
        check.due("sees(0, 19)", low.sees(0, 19), 0);
        SightRidge high = Check.withProfile("999m200,0*18,999m200");
        check.due("obstacle(0, 19, 1), the greatest there is", high.obstacle(0, 19, 1), 1199 * 19);
        check.due("sees(0, 19)", high.sees(0, 19), 1);
        SightRidge apart = Check.withProfile("7m3,2,4,1,9");
        apart.setBulge(1);
        // At 1, 2 and 3: 10 * 3 + 9 - 4 * (2 + 3), 10 * 2 + 9 * 2 - 4 * (4 + 4), 10 + 9 * 3 - 4 * (1 + 3).
        check.due("obstacle(0, 4, 1)", apart.obstacle(0, 4, 1), 6);
        check.due("obstacle(0, 4, 0)", apart.obstacle(0, 4, 0), 2);
    }

    private void sight() {
        check.sentence(0, "Two such points see each other if no clearance between them is less than 0;");
        for (int hill = 1; hill < 19; hill++) {
            SightRidge x = line(20, 500);
            x.setGround(hill, 501);
            check.due("sees(0, 19) over a hill of 1 on " + hill, x.sees(0, 19), 0);
            check.due("sees(19, 0) over a hill of 1 on " + hill, x.sees(19, 0), 0);
            x.setGround(hill, 500);
            check.due("sees(0, 19) at clearance 0 on " + hill, x.sees(0, 19), 1);
            check.due("sees(19, 0) at clearance 0 on " + hill, x.sees(19, 0), 1);
            x.mast(hill, 200);
            check.due("sees(0, 19) past a mast on " + hill, x.sees(0, 19), 1);
        }
        SightRidge x = Check.withProfile("0m19,10,0");
        check.due("sees(0, 2) at clearance -1", x.sees(0, 2), 0);
        x.mast(0, 20);
        check.due("sees(0, 2) at clearance 0", x.sees(0, 2), 1);
    }

    private void neighborsAndSelf() {
        check.sentence(0, "neighboring stations always do, and a station sees itself.");
        SightRidge x = line(20, 0);
        for (int s = 1; s < 20; s += 2) {
            x.setGround(s, 999);
            x.mast(s, 200);
        }
        x.setBulge(9);
        x.setRange(1);
        for (int s = 0; s < 20; s++) {
            check.due("sees(" + s + ") itself", x.sees(s, s), 1);
            if (s < 19) {
                check.due("sees(" + s + ") the next one", x.sees(s, s + 1), 1);
                check.due("the next one sees(" + s + ")", x.sees(s + 1, s), 1);
            }
        }
        check.due("sees(0, 2), which are no neighbors", x.sees(0, 2), 0);
    }

    private void contact() {
        check.sentence(0, "They are in contact if they see each other, and their numbers differ by at most the range.");
        SightRidge x = line(20, 5);
        for (int range = 1; range <= 19; range++) {
            x.setRange(range);
            check.due("station(0, 3) in range " + range, x.station(0, 3), (1 << range + 1) - 2);
            check.due("station(19, 3) in range " + range, x.station(19, 3), 0x7FFFF & ~((1 << 19 - range) - 1));
            check.due("farthest() in range " + range, x.farthest(), range);
        }
        x.setGround(1, 6);
        check.due("station(0, 3) behind a hill", x.station(0, 3), 2);
        check.due("station(0, 4) behind a hill", x.station(0, 4), 3);
    }

    private void groundOfOthers() {
        check.sentence(0, "A station sees the ground of another station if its top and the ground height of the other "
            + "one see each other, and it sees its own ground.");
        SightRidge x = Check.withProfile("0,10,0m20");
        check.due("sees(0, 2), top and top", x.sees(0, 2), 1);
        check.due("station(0, 4), top and ground", x.station(0, 4), 0b011);
        check.due("station(2, 4), top and ground", x.station(2, 4), 0b111);
        x.mast(2, 19);
        check.due("station(2, 4) at clearance -1", x.station(2, 4), 0b110);
        SightRidge deep = line(20, 0);
        deep.setBulge(9);
        for (int s = 0; s < 20; s++) {
            check.due("station(" + s + ", 4)", deep.station(s, 4), 0xFFFFF & (s > 0 ? 7 << s - 1 : 3));
        }
    }

    private void station() {
        check.sentence(14, "Returns a property of a station.");
        SightRidge x = line(20, 9);
        x.reset(2, 5);
        for (int what : new int[] {-1, 6, 7, Integer.MIN_VALUE, Integer.MAX_VALUE}) {
            check.error(x, "station(0, " + what + ")", () -> x.station(0, what), BAD);
        }
        for (int what = 0; what <= 5; what++) {
            int of = what;
            for (int s : new int[] {-1, 2, 3, 19, 20, 32, Integer.MIN_VALUE, Integer.MAX_VALUE}) {
                check.error(x, "station(" + s + ", " + of + ")", () -> x.station(s, of), BAD);
            }
        }
        check.sentence(14, "1 for the height of its mast (0 without one), 2 for its top,");
        check.due("station(1, 1)", x.station(1, 1), 0);
        check.due("station(1, 2)", x.station(1, 2), 5);
        x.mast(1, 200);
        check.due("station(1, 1)", x.station(1, 1), 200);
        check.due("station(1, 2)", x.station(1, 2), 205);
        check.sentence(14, "3 for the set of the other stations that it is in contact with,");
        check.due("station(0, 3) of two", x.station(0, 3), 2);
        check.due("station(1, 3) of two", x.station(1, 3), 1);
        check.sentence(14, "4 for the set of the stations whose ground it sees,");
        check.due("station(0, 4) of two", x.station(0, 4), 3);
        check.due("station(1, 4) of two", x.station(1, 4), 3);
    }

    private void neighbors() {
        check.sentence(14, "5 for the number of its neighbors (one at the ends of the line, else two) that are higher "
            + "(by their tops)");
        SightRidge x = line(20, 999);
        x.reset(2, 0);
        check.due("station(1, 5), where a line of twenty was", x.station(1, 5), 0);
        check.due("station(0, 5) of two like ones", x.station(0, 5), 0);
        x.mast(0, 1);
        check.due("station(1, 5), by the top", x.station(1, 5), 1);
        check.due("station(0, 5), the higher one", x.station(0, 5), 0);
        SightRidge three = Check.withProfile("5m1,5,6");
        check.due("station(1, 5) between higher ones", three.station(1, 5), 2);
        three.mast(1, 1);
        check.due("station(1, 5) between ones as high", three.station(1, 5), 0);
        three.mast(1, 0);
        three.mast(0, 0);
        check.due("station(1, 5) with one higher", three.station(1, 5), 1);
        SightRidge apart = Check.withProfile("9,5,6,5,9");
        check.due("station(2, 5) with higher ones beyond its neighbors", apart.station(2, 5), 0);
        SightRidge full = Check.withProfile("1*18,2,1");
        check.due("station(19, 5) at the end", full.station(19, 5), 1);
        check.due("station(17, 5)", full.station(17, 5), 1);
        check.due("station(0, 5) at the start", full.station(0, 5), 0);
    }

    private void sees() {
        check.sentence(15, "`b`: a station, perhaps the same");
        SightRidge x = line(20, 9);
        x.reset(3, 0);
        for (int s = 0; s < 3; s++) {
            check.due("sees(" + s + ", " + s + ")", x.sees(s, s), 1);
        }
        check.sentence(15, "Returns 1 if they do, otherwise 0; BAD.");
        for (int no : new int[] {-1, 3, 19, 20, Integer.MIN_VALUE, Integer.MAX_VALUE}) {
            check.error(x, "sees(" + no + ", 0)", () -> x.sees(no, 0), BAD);
            check.error(x, "sees(2, " + no + ")", () -> x.sees(2, no), BAD);
            check.error(x, "sees(" + no + ", " + no + ")", () -> x.sees(no, no), BAD);
        }
        check.due("sees(0, 2)", x.sees(0, 2), 1);
        x.setGround(1, 1);
        check.due("sees(0, 2) behind a hill", x.sees(0, 2), 0);
    }

    private void obstacle() {
        check.sentence(16, "Returns the station or the clearance; BAD; NONE if there is no station between them.");
        SightRidge x = Check.withProfile("0,1,1,2");
        for (int s = 0; s < 3; s++) {
            for (int what = 0; what <= 1; what++) {
                check.due("obstacle() of neighbors", x.obstacle(s, s + 1, what), NONE);
                check.due("obstacle() of neighbors", x.obstacle(s + 1, s, what), NONE);
            }
        }
        for (int what : new int[] {-1, 2, Integer.MIN_VALUE, Integer.MAX_VALUE}) {
            check.error(x, "obstacle(0, 3, " + what + ")", () -> x.obstacle(0, 3, what), BAD);
            check.error(x, "obstacle(0, 1, " + what + ")", () -> x.obstacle(0, 1, what), BAD);
        }
        for (int no : new int[] {-1, 4, 20, Integer.MIN_VALUE, Integer.MAX_VALUE}) {
            check.error(x, "obstacle(" + no + ", 0, 0)", () -> x.obstacle(no, 0, 0), BAD);
            check.error(x, "obstacle(0, " + no + ", 1)", () -> x.obstacle(0, no, 1), BAD);
        }
        check.sentence(16, "`b`: another station");
        for (int s = 0; s < 4; s++) {
            int same = s;
            check.error(x, "obstacle() of " + s + " and itself", () -> x.obstacle(same, same, 0), BAD);
            check.error(x, "obstacle() of " + s + " and itself", () -> x.obstacle(same, same, 1), BAD);
        }
        check.sentence(16, "`what`: 0 for the station, 1 for the clearance");
        // At 1 the clearance is 0 * 2 + 2 - 3, which is no error and no NONE; at 2 it is 0 + 4 - 3.
        check.due("obstacle(0, 3, 1)", x.obstacle(0, 3, 1), -1);
        check.due("obstacle(0, 3, 0)", x.obstacle(0, 3, 0), 1);
        x.setGround(3, 1);
        check.due("obstacle(0, 3, 1)", x.obstacle(0, 3, 1), -2);
        x.setGround(3, 0);
        check.due("obstacle(0, 3, 1)", x.obstacle(0, 3, 1), -3);
    }

    private void obstacleTies() {
        check.sentence(16, "the station between them with the least clearance for their tops, of several the least "
            + "one.");
        SightRidge x = line(20, 3);
        check.due("obstacle(0, 19, 0) of a plain", x.obstacle(0, 19, 0), 1);
        check.due("obstacle(19, 0, 0) of a plain", x.obstacle(19, 0, 0), 1);
        check.due("obstacle(0, 19, 1) of a plain", x.obstacle(0, 19, 1), 0);
        check.due("obstacle(17, 19, 0)", x.obstacle(17, 19, 0), 18);
        x.setGround(18, 4);
        check.due("obstacle(0, 19, 0)", x.obstacle(0, 19, 0), 18);
        check.due("obstacle(0, 19, 1)", x.obstacle(0, 19, 1), -19);
        x.setGround(1, 4);
        check.due("obstacle(19, 0, 0), of two the least one", x.obstacle(19, 0, 0), 1);
        check.due("obstacle(19, 0, 1)", x.obstacle(19, 0, 1), -19);
    }

    private void neededMast() {
        check.sentence(17, "Returns the least height from 0 to 200 with which they see each other, 0 meaning no mast; "
            + "BAD; NONE if there is none.");
        SightRidge x = Check.withProfile("0,100,0");
        check.due("neededMast(0, 2) of 200", x.neededMast(0, 2), 200);
        x.setGround(2, 199);
        check.due("neededMast(0, 2) of 1", x.neededMast(0, 2), 1);
        x.setGround(2, 200);
        check.due("neededMast(0, 2) of none", x.neededMast(0, 2), 0);
        x.setGround(1, 101);
        x.setGround(2, 1);
        check.due("neededMast(0, 2) of 201", x.neededMast(0, 2), NONE);
        x.mast(0, 200);
        check.due("neededMast(0, 2) of 201 with a mast of 200", x.neededMast(0, 2), NONE);
        check.sentence(17, "Finds how high the mast of a station has to be so that it sees another station, as that is "
            + "now.");
        x.mast(2, 1);
        check.due("neededMast(0, 2) to a mast of 1", x.neededMast(0, 2), 200);
        x.mast(2, 200);
        check.due("neededMast(0, 2) to a mast of 200", x.neededMast(0, 2), 1);
        x.setGround(2, 2);
        check.due("neededMast(0, 2), with a mast that it does not need", x.neededMast(0, 2), 0);
        check.due("neededMast(0, 1) of neighbors", x.neededMast(0, 1), 0);
        check.sentence(17, "`b`: another station");
        for (int s = 0; s < 3; s++) {
            int same = s;
            check.error(x, "neededMast() of " + s + " and itself", () -> x.neededMast(same, same), BAD);
        }
        for (int no : new int[] {-1, 3, 20, Integer.MIN_VALUE, Integer.MAX_VALUE}) {
            check.error(x, "neededMast(" + no + ", 0)", () -> x.neededMast(no, 0), BAD);
            check.error(x, "neededMast(0, " + no + ")", () -> x.neededMast(0, no), BAD);
        }
    }

    private void growthIs(SightRidge x, int a, int b, int first, int other) {
        int sum = first == NONE ? NONE : first + other;
        int[] due = {sum, first, other};
        for (int what = 0; what <= 2; what++) {
            check.due("growth(" + a + ", " + b + ", " + what + ")", x.growth(a, b, what), due[what]);
        }
    }

    private void growth() {
        check.sentence(18, "with the least sum, of several those with the least number for the first station.");
        SightRidge x = Check.withProfile("0,10,0,0");
        growthIs(x, 0, 1, 0, 0);
        growthIs(x, 0, 2, 0, 20);
        growthIs(x, 2, 0, 0, 20);
        growthIs(x, 0, 3, 15, 0);
        growthIs(x, 3, 0, 0, 15);
        x.setGround(1, 0);
        growthIs(x, 0, 3, 0, 0);
        check.sentence(18, "`b`: another station");
        for (int s = 0; s < 4; s++) {
            int same = s;
            check.error(x, "growth() of " + s + " and itself", () -> x.growth(same, same, 0), BAD);
        }
        for (int no : new int[] {-1, 4, 20, Integer.MIN_VALUE, Integer.MAX_VALUE}) {
            check.error(x, "growth(" + no + ", 0, 0)", () -> x.growth(no, 0, 0), BAD);
            check.error(x, "growth(0, " + no + ", 0)", () -> x.growth(0, no, 0), BAD);
        }
        check.sentence(18, "`what`: 0 for the sum, 1 for the number of the first station, 2 for that of the other one");
        for (int what : new int[] {-1, 3, Integer.MIN_VALUE, Integer.MAX_VALUE}) {
            check.error(x, "growth(0, 2, " + what + ")", () -> x.growth(0, 2, what), BAD);
        }
    }

    private void growthLimits() {
        check.sentence(18, "such that neither mast becomes higher than 200 (a station without a mast gets one if it "
            + "grows),");
        SightRidge x = Check.withProfile("1,201,1");
        growthIs(x, 0, 2, 200, 200);
        x.setGround(0, 0);
        growthIs(x, 0, 2, NONE, NONE);
        growthIs(x, 2, 0, NONE, NONE);
        x.setGround(0, 2);
        growthIs(x, 0, 2, 199, 200);
        growthIs(x, 2, 0, 199, 200);
        x.mast(0, 200);
        growthIs(x, 0, 2, 0, 199);
        x.mast(2, 199);
        growthIs(x, 0, 2, 0, 0);
        x.mast(2, 198);
        growthIs(x, 0, 2, 0, 1);
        growthIs(x, 2, 0, 1, 0);
        x.mast(0, 199);
        growthIs(x, 0, 2, 0, 2);
        growthIs(x, 2, 0, 1, 1);
        check.masts(x, "as nothing grows in truth", 199, 0, 198);
        SightRidge highest = Check.withProfile("0m200,200,0m200");
        growthIs(highest, 0, 2, 0, 0);
        highest.setGround(1, 201);
        growthIs(highest, 0, 2, NONE, NONE);
        check.sentence(18, "Returns the number; BAD; NONE if there are none.");
        for (int what : new int[] {-1, 3}) {
            check.error(highest, "growth(0, 2, " + what + ")", () -> highest.growth(0, 2, what), BAD);
        }
    }

    private void shadow() {
        check.sentence(19, "Returns the station; BAD if there is no such station, i is negative or what is out of "
            + "range; NONE if there are not so many shadows.");
        SightRidge x = Check.withProfile("0,9,0*17,200");
        for (int no : new int[] {-1, 20, 21, Integer.MIN_VALUE, Integer.MAX_VALUE}) {
            check.error(x, "shadow(" + no + ", 0, 0)", () -> x.shadow(no, 0, 0), BAD);
            check.error(x, "shadow(" + no + ", 9, 0)", () -> x.shadow(no, 9, 0), BAD);
        }
        for (int i : new int[] {-1, -2, Integer.MIN_VALUE}) {
            check.error(x, "shadow(0, " + i + ", 0)", () -> x.shadow(0, i, 0), BAD);
        }
        for (int what : new int[] {-1, 2, Integer.MIN_VALUE, Integer.MAX_VALUE}) {
            check.error(x, "shadow(0, 0, " + what + ")", () -> x.shadow(0, 0, what), BAD);
            check.error(x, "shadow(0, 99, " + what + ")", () -> x.shadow(0, 99, what), BAD);
        }
        shadowIs(x, 0, 0, 2, 18);
        for (int i : new int[] {1, 2, 20, 31, 32, Integer.MAX_VALUE}) {
            shadowIs(x, 0, i, NONE, NONE);
        }
        shadowIs(new SightRidge(), 0, 0, NONE, NONE);
        shadowIs(new SightRidge(), 1, 0, NONE, NONE);
    }

    private void shadowIs(SightRidge x, int station, int i, int first, int last) {
        check.due("shadow(" + station + ", " + i + ", 0)", x.shadow(station, i, 0), first);
        check.due("shadow(" + station + ", " + i + ", 1)", x.shadow(station, i, 1), last);
    }

    private void manyShadows() {
        check.sentence(19, "Returns a shadow: a longest sequence of successive stations whose ground a station does "
            + "not see. Shadows are numbered from 0, by their stations.");
        SightRidge x = line(20, 0);
        for (int s = 1; s < 20; s += 2) {
            Check.typeAll(x, s == 1 ? "0," : ",0,");
            Check.typeAll(x, "" + s * s);
        }
        check.due("load()", x.load(), 20);
        // Each hill stands over the one before, and hides the station behind it.
        for (int i = 0; i < 9; i++) {
            shadowIs(x, 0, i, 2 * i + 2, 2 * i + 2);
        }
        shadowIs(x, 0, 9, NONE, NONE);
        SightRidge ends = Check.withProfile("0*9,20,0,9,0*8");
        shadowIs(ends, 10, 0, 0, 8);
        shadowIs(ends, 10, 1, 12, 19);
        shadowIs(ends, 10, 2, NONE, NONE);
        shadowIs(ends, 19, 0, 0, 8);
        shadowIs(ends, 19, 1, 10, 10);
        shadowIs(ends, 19, 2, NONE, NONE);
        shadowIs(ends, 0, 0, 10, 19);
        shadowIs(ends, 0, 1, NONE, NONE);
    }

    private void farthest() {
        check.sentence(20, "Finds the two stations that are in contact and farthest from each other, of several those "
            + "with the least smaller number.");
        check.due("farthest() of two", new SightRidge().farthest(), 1);
        SightRidge x = line(20, 0);
        check.due("farthest() of a plain", x.farthest(), 19);
        x.setRange(18);
        check.due("farthest() in range 18, of 0 and 18, 1 and 19", x.farthest(), 18);
        x.setBulge(9);
        check.due("farthest() of neighbors alone", x.farthest(), 1);
        check.sentence(20, "Returns 100 * (the smaller number) + (the greater one).");
        x.mast(19, 18);
        check.due("farthest() at the end", x.farthest(), 1719);
        x.setRange(1);
        check.due("farthest() in range 1", x.farthest(), 1);
        x.setRange(2);
        x.mast(9, 18);
        check.due("farthest() in the middle, of three", x.farthest(), 709);
        x.setRange(3);
        x.mast(19, 54);
        check.due("farthest() at the end, one farther than in the middle", x.farthest(), 1619);
    }
}
