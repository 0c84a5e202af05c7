/** The edges in the sentences of promises 21 to 25, and in those on chains and the finding. */
final class ChainEdges {
    private static final int BAD = -2, STATE = -3, NONE = -1;
    private static final int[] NO_STATIONS = {-1, 5, 19, 20, 31, 32, 36, Integer.MIN_VALUE, Integer.MAX_VALUE};

    private final Check check;

    ChainEdges(Check check) {
        this.check = check;
    }

    void all() {
        toItself();
        lexicographically();
        keptFinding();
        chain();
        chainOverTheEnds();
        longestChain();
        noChain();
        newMasts();
        newMastsOfAll();
        newMastsInContact();
        newMastsFewest();
        vital();
        vitalAtTheEnds();
        vitalAtAnEdgeOfSight();
        noVital();
        finding();
        longestFinding();
        groups();
    }

    private static SightRidge inRange(String profile, int range) {
        SightRidge x = Check.withProfile(profile);
        x.setRange(range);
        return x;
    }

    private void chainIs(SightRidge x, int... stations) {
        int from = stations[0];
        int to = stations[stations.length - 1];
        String call = "chain(" + from + ", " + to + ")";
        check.due(call, x.chain(from, to), stations.length);
        check.finding(x, call, stations);
    }

    private void newMastsIs(SightRidge x, int height, int masts, int... stations) {
        int from = stations[0];
        int to = stations[stations.length - 1];
        String call = "newMasts(" + from + ", " + to + ", " + height + ")";
        check.due(call, x.newMasts(from, to, height), masts);
        check.finding(x, call, stations);
    }

    private void vitalIs(SightRidge x, int from, int to, int... stations) {
        int set = 0;
        for (int s : stations) {
            set |= 1 << s;
        }
        check.due("vital(" + from + ", " + to + ")", x.vital(from, to), set);
        check.finding(x, "vital(" + from + ", " + to + ")", stations);
    }

    private void toItself() {
        check.sentence(0, "for s = t it consists of s alone.");
        SightRidge x = inRange("0,0m1,0*18", 1);
        for (int s : new int[] {0, 1, 19}) {
            chainIs(x, s);
            newMastsIs(x, 200, s == 1 ? 0 : 1, s);
            vitalIs(x, s, s);
        }
    }

    private void lexicographically() {
        check.sentence(0, "Sequences are compared lexicographically, by the numbers of the stations.");
        SightRidge x = inRange("0*2,0m1,0*7,0m1,0*2", 10);
        chainIs(x, 0, 2, 12);
        chainIs(x, 12, 2, 0);
        SightRidge longer = inRange("0*3,0*2m1,0*3,0*4m1,0*4", 5);
        // From 0 to 13, 3 is the only first relay and 8 the only second one; from 14 and 13 there are several.
        chainIs(longer, 0, 3, 8, 13);
        chainIs(longer, 14, 9, 4, 0);
        chainIs(longer, 13, 8, 3, 0);
        newMastsIs(longer, 1, 2, 13, 8, 3, 0);
    }

    private void keptFinding() {
        check.sentence(0, "Some calls find a chain or a set of stations, the finding, which is kept, as it was found, "
            + "until the next call that finds one; there is none at first.");
        SightRidge x = inRange("0*19m1,0", 9);
        check.due("finding(-1) at first", x.finding(NONE), STATE);
        chainIs(x, 19, 10, 1, 0);
        x.reset(2, 0);
        check.finding(x, "on a line of two", 19, 10, 1, 0);
        x.chain(0, 2);
        x.newMasts(0, 1, 0);
        x.newMasts(0, 1, 201);
        x.vital(-1, 0);
        x.watch(0);
        x.watch(201);
        check.finding(x, "after calls that were refused", 19, 10, 1, 0);
        x.undo();
        check.finding(x, "after undo()", 19, 10, 1, 0);
        x.vital(0, 1);
        check.finding(x, "after an empty set was found");
    }

    private void chain() {
        check.sentence(21, "Finds a chain with the fewest stations, all of which, but the first and the last one, have "
            + "masts; of several the least sequence.");
        SightRidge x = inRange("0*4,0", 2);
        chainIs(x, 1, 3);
        check.due("chain(0, 4) without a mast", x.chain(0, 4), NONE);
        x.mast(0, 200);
        x.mast(4, 200);
        check.due("chain(0, 4) with masts on its ends alone", x.chain(0, 4), NONE);
        x.mast(2, 1);
        chainIs(x, 0, 2, 4);
        x.mast(1, 1);
        x.mast(3, 1);
        chainIs(x, 0, 2, 4);
        chainIs(x, 0, 1, 3);
        x.setRange(1);
        chainIs(x, 0, 1, 2, 3, 4);
        x.setRange(19);
        chainIs(x, 0, 4);
        for (int no : NO_STATIONS) {
            check.error(x, "chain(" + no + ", 0)", () -> x.chain(no, 0), BAD);
            check.error(x, "chain(0, " + no + ")", () -> x.chain(0, no), BAD);
            check.error(x, "chain(" + no + ", " + no + ")", () -> x.chain(no, no), BAD);
        }
    }

    private void chainOverTheEnds() {
        check.sentence(21, "Finds a chain with the fewest stations, all of which, but the first and the last one, have "
            + "masts; of several the least sequence.");
        // Between 1 and 3 stands a hill on 2, but 0 sees all.
        SightRidge x = Check.withProfile("100,0,10,0");
        check.due("chain(1, 3) with no mast on 0", x.chain(1, 3), NONE);
        check.due("chain(3, 1) with no mast on 0", x.chain(3, 1), NONE);
        x.mast(0, 1);
        chainIs(x, 1, 0, 3);
        chainIs(x, 3, 0, 1);
        x.mast(2, 1);
        chainIs(x, 1, 0, 3);
        x.mast(0, 0);
        chainIs(x, 1, 2, 3);
        SightRidge last = Check.withProfile("0*17,10,0,200");
        check.due("chain(16, 18) with no mast on 19", last.chain(16, 18), NONE);
        last.mast(19, 1);
        chainIs(last, 16, 19, 18);
        chainIs(last, 18, 19, 0);
    }

    private void longestChain() {
        check.sentence(21, "Returns the number of its stations; BAD; NONE if there is none (the finding stays then).");
        SightRidge x = inRange("0,0*18m1,0", 1);
        int[] line = new int[20];
        int[] back = new int[20];
        for (int s = 0; s < 20; s++) {
            line[s] = s;
            back[s] = 19 - s;
        }
        chainIs(x, line);
        chainIs(x, back);
        chainIs(new SightRidge(), 0, 1);
        chainIs(new SightRidge(), 1, 0);
    }

    private void noChain() {
        check.sentence(21, "Returns the number of its stations; BAD; NONE if there is none (the finding stays then).");
        SightRidge x = inRange("0,0*8m1,0,0*9m1,0", 1);
        check.error(x, "chain(0, 19) before a finding", () -> x.chain(0, 19), NONE);
        check.due("finding(-1)", x.finding(NONE), STATE);
        chainIs(x, 3, 4, 5);
        check.error(x, "chain(0, 19)", () -> x.chain(0, 19), NONE);
        check.error(x, "chain(19, 0)", () -> x.chain(19, 0), NONE);
        check.error(x, "chain(8, 10)", () -> x.chain(8, 10), NONE);
        check.finding(x, "as it was found", 3, 4, 5);
        x.mast(9, 1);
        check.due("chain(0, 19)", x.chain(0, 19), 20);
    }

    private void newMasts() {
        check.sentence(22, "`height`: the height of new masts, 1 to 200");
        SightRidge x = inRange("0*4,0", 2);
        for (int height : new int[] {0, -1, 201, Integer.MIN_VALUE, Integer.MAX_VALUE}) {
            check.error(x, "newMasts(0, 4, " + height + ")", () -> x.newMasts(0, 4, height), BAD);
        }
        newMastsIs(x, 1, 3, 0, 2, 4);
        newMastsIs(x, 200, 3, 4, 2, 0);
        for (int no : NO_STATIONS) {
            check.error(x, "newMasts(" + no + ", 0, 1)", () -> x.newMasts(no, 0, 1), BAD);
            check.error(x, "newMasts(0, " + no + ", 1)", () -> x.newMasts(0, no, 1), BAD);
            check.error(x, "newMasts(" + no + ", " + no + ", 1)", () -> x.newMasts(no, no, 1), BAD);
        }
        check.sentence(22, "The chain is the finding; the masts are not put up.");
        check.masts(x, "after newMasts()", 0, 0, 0, 0, 0);
        check.due("count(6)", x.count(6), 2);
        check.due("undo()", x.undo(), 1);
    }

    private void newMastsOfAll() {
        check.sentence(22, "Returns the number of new masts; BAD; NONE if there is none (the finding stays then).");
        SightRidge x = inRange("0*19,0", 1);
        check.due("newMasts(0, 19, 1)", x.newMasts(0, 19, 1), 20);
        check.due("finding(-1)", x.finding(NONE), 20);
        check.due("finding(19)", x.finding(19), 19);
        SightRidge full = inRange("0*19m1,0m1", 1);
        check.due("newMasts(19, 0, 1)", full.newMasts(19, 0, 1), 0);
        check.due("finding(-1)", full.finding(NONE), 20);
        check.due("finding(19)", full.finding(19), 0);
        newMastsIs(new SightRidge(), 1, 2, 0, 1);
        // Neighbors are always in contact, so that there is a chain over all hills.
        SightRidge hills = Check.withProfile("0,999,0,999,0");
        hills.setBulge(9);
        hills.setRange(1);
        newMastsIs(hills, 1, 5, 0, 1, 2, 3, 4);
    }

    private void newMastsInContact() {
        check.sentence(22, "all of its stations that have no mast, also the first and the last one, get one of some "
            + "height, and the contacts are those with the new masts of this chain.");
        SightRidge x = Check.withProfile("0,10,0");
        newMastsIs(x, 9, 3, 0, 1, 2);
        newMastsIs(x, 10, 2, 0, 2);
        x.mast(0, 1);
        newMastsIs(x, 18, 2, 0, 1, 2);
        newMastsIs(x, 19, 1, 0, 2);
        x.mast(2, 19);
        newMastsIs(x, 1, 0, 0, 2);
        x.mast(2, 18);
        newMastsIs(x, 200, 1, 0, 1, 2);
    }

    private void newMastsFewest() {
        check.sentence(22, "Of several it is one with the fewest stations, of several the least sequence.");
        SightRidge x = inRange("0*2m1,0,0*2m1", 2);
        newMastsIs(x, 1, 0, 0, 1, 3, 4);
        x.mast(0, 0);
        x.mast(4, 0);
        newMastsIs(x, 1, 2, 0, 1, 3, 4);
        x.mast(3, 0);
        newMastsIs(x, 1, 3, 0, 2, 4);
        SightRidge least = inRange("0*10,0", 5);
        newMastsIs(least, 1, 3, 0, 5, 10);
        newMastsIs(least, 1, 3, 9, 4, 0);
        newMastsIs(least, 1, 2, 9, 4);
        // Nineteen stations and two new masts come before three stations and three new masts.
        SightRidge far = Check.withProfile("50,50*17m1,50,999");
        far.setBulge(2);
        check.due("newMasts(0, 18, 1)", far.newMasts(0, 18, 1), 2);
        check.due("finding(-1)", far.finding(NONE), 19);
    }

    private void vital() {
        check.sentence(23, "the stations with masts, other than these two, without whose mast (all others staying) "
            + "chain() would find no chain.");
        SightRidge x = inRange("0*4m1,0m1", 2);
        vitalIs(x, 0, 4);
        vitalIs(x, 0, 1);
        x.setRange(1);
        vitalIs(x, 0, 4, 1, 2, 3);
        vitalIs(x, 4, 0, 1, 2, 3);
        vitalIs(x, 1, 3, 2);
        vitalIs(x, 0, 1);
        check.masts(x, "after vital()", 1, 1, 1, 1, 1);
        x.setRange(2);
        x.mast(2, 0);
        vitalIs(x, 0, 4, 1, 3);
        for (int no : NO_STATIONS) {
            check.error(x, "vital(" + no + ", 0)", () -> x.vital(no, 0), BAD);
            check.error(x, "vital(0, " + no + ")", () -> x.vital(0, no), BAD);
            check.error(x, "vital(" + no + ", " + no + ")", () -> x.vital(no, no), BAD);
        }
        SightRidge line = inRange("0*19m1,0m1", 1);
        check.due("vital(0, 19)", line.vital(0, 19), 0x7FFFE);
        check.due("finding(-1)", line.finding(NONE), 18);
        check.due("finding(17)", line.finding(17), 18);
    }

    private void vitalAtTheEnds() {
        check.sentence(23, "The set is the finding.");
        SightRidge first = Check.withProfile("100m1,0,10,0");
        vitalIs(first, 1, 3, 0);
        vitalIs(first, 3, 1, 0);
        first.mast(2, 1);
        vitalIs(first, 1, 3);
        SightRidge last = Check.withProfile("0*17,10,0,200m1");
        vitalIs(last, 16, 18, 19);
        vitalIs(last, 18, 0, 19);
    }

    private void vitalAtAnEdgeOfSight() {
        check.sentence(23, "without whose mast (all others staying) chain() would find no chain.");
        // 0 and 2 see each other at clearance 0, without masts; so do 2 and 4, but by the masts' height.
        SightRidge x = Check.withProfile("10,10m1,10,11,10");
        vitalIs(x, 0, 2);
        check.error(x, "vital(0, 4)", () -> x.vital(0, 4), STATE);
        x.mast(2, 2);
        vitalIs(x, 0, 4, 2);
        x.mast(2, 1);
        check.error(x, "vital(0, 4) with a mast too low", () -> x.vital(0, 4), STATE);
    }

    private void noVital() {
        check.sentence(23, "Returns the set; BAD; STATE if chain() finds no chain anyway.");
        SightRidge x = inRange("0m1,0,0m1", 1);
        check.error(x, "vital(0, 2) before a finding", () -> x.vital(0, 2), STATE);
        check.due("finding(-1)", x.finding(NONE), STATE);
        chainIs(x, 2, 1);
        check.error(x, "vital(0, 2)", () -> x.vital(0, 2), STATE);
        check.error(x, "vital(2, 0)", () -> x.vital(2, 0), STATE);
        check.finding(x, "as it was found", 2, 1);
        check.error(x, "vital(0, 3)", () -> x.vital(0, 3), BAD);
        x.mast(1, 1);
        vitalIs(x, 0, 2, 1);
    }

    private void finding() {
        check.sentence(24, "Returns the station or the number; BAD if i is less than NONE; STATE if there is no "
            + "finding; NONE if there are not so many.");
        SightRidge x = inRange("0*4m1,0m1", 2);
        int[] few = {-2, -3, Integer.MIN_VALUE};
        int[] many = {3, 4, 5, 19, 20, 21, 32, Integer.MAX_VALUE};
        for (int i : few) {
            check.error(x, "finding(" + i + ") at first", () -> x.finding(i), BAD);
        }
        for (int i : new int[] {-1, 0, 1, 19, 20, Integer.MAX_VALUE}) {
            check.error(x, "finding(" + i + ") at first", () -> x.finding(i), STATE);
        }
        x.chain(4, 0);
        check.due("finding(-1)", x.finding(-1), 3);
        check.due("finding(0)", x.finding(0), 4);
        check.due("finding(2)", x.finding(2), 0);
        for (int i : few) {
            check.error(x, "finding(" + i + ")", () -> x.finding(i), BAD);
        }
        for (int i : many) {
            check.error(x, "finding(" + i + ") of three", () -> x.finding(i), NONE);
        }
        x.vital(0, 0);
        check.due("finding(-1) of an empty set", x.finding(-1), 0);
        check.due("finding(0) of an empty set", x.finding(0), NONE);
        check.due("finding(-2) of an empty set", x.finding(-2), BAD);
    }

    private void longestFinding() {
        check.sentence(24, "Returns a station of the finding: of a chain in its order, of a set in ascending order.");
        SightRidge x = inRange("0*19m1,0m1", 1);
        check.due("chain(19, 0)", x.chain(19, 0), 20);
        for (int i = 0; i < 20; i++) {
            check.due("finding(" + i + ")", x.finding(i), 19 - i);
        }
        check.due("finding(20)", x.finding(20), NONE);
        check.due("vital(19, 0)", x.vital(19, 0), 0x7FFFE);
        for (int i = 0; i < 18; i++) {
            check.due("finding(" + i + ")", x.finding(i), i + 1);
        }
        check.due("finding(18)", x.finding(18), NONE);
        check.due("finding(19)", x.finding(19), NONE);
    }

    private void groups() {
        check.sentence(25, "Counts the groups into which all stations fall if those that are in contact belong "
            + "together, directly or by others, with or without masts.");
        check.due("groups() of two", new SightRidge().groups(), 1);
        SightRidge x = inRange("0,999,0*17,999", 1);
        check.due("groups() without masts", x.groups(), 1);
        x.setBulge(9);
        x.mast(10, 200);
        check.due("groups() with a mast", x.groups(), 1);
        x.reset(2, 0);
        check.due("groups() of two after twenty", x.groups(), 1);
        check.due("finding(-1), as no group is a finding", x.finding(NONE), STATE);
    }
}
