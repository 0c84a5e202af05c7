/** Promises 21 to 25: chains, the masts that they need, the finding, and groups. */
public final class ChainTest {
    private static final Check check = new Check();
    private static final int BAD = -2, STATE = -3, NONE = -1;

    public static void main(String[] args) {
        chain();
        chainLeastSequence();
        chainBothWays();
        chainNone();
        newMasts();
        newMastsFewest();
        newMastsBeforeStations();
        newMastsOverHills();
        vital();
        vitalWithoutChain();
        finding();
        findingStays();
        groups();
        wrongArguments();
        check.finish();
    }

    private static void chain() {
        check.promise("promise 21");
        SightRidge x = Check.withProfile("0*2,0m1,0*2");
        x.setRange(2);
        check.due("chain(0, 4)", x.chain(0, 4), 3);
        check.finding(x, "chain(0, 4)", 0, 2, 4);
        check.due("chain(4, 0)", x.chain(4, 0), 3);
        check.finding(x, "chain(4, 0)", 4, 2, 0);
        check.due("chain(0, 1)", x.chain(0, 1), 2);
        check.finding(x, "chain(0, 1)", 0, 1);
        check.due("chain(3, 3)", x.chain(3, 3), 1);
        check.finding(x, "chain(3, 3)", 3);
        x.setRange(4);
        check.due("chain(0, 4) in range 4", x.chain(0, 4), 2);
        check.finding(x, "chain(0, 4) in range 4", 0, 4);
    }

    private static void chainLeastSequence() {
        check.promise("promise 21");
        SightRidge x = Check.withProfile("5,5*3m1,5");
        x.setRange(3);
        // Masts of the same height on 1, 2 and 3: each of them is in contact with 0 and with 4.
        check.due("chain(0, 4)", x.chain(0, 4), 3);
        check.finding(x, "chain(0, 4)", 0, 1, 4);
        check.due("chain(4, 0)", x.chain(4, 0), 3);
        check.finding(x, "chain(4, 0)", 4, 1, 0);
        x.mast(1, 0);
        check.due("chain(0, 4) without 1", x.chain(0, 4), 3);
        check.finding(x, "chain(0, 4) without 1", 0, 2, 4);
        SightRidge longer = Check.withProfile("0,0*8m1,0");
        longer.setRange(4);
        check.due("longer chain(0, 9)", longer.chain(0, 9), 4);
        check.finding(longer, "longer chain(0, 9)", 0, 1, 5, 9);
        check.due("longer chain(9, 0)", longer.chain(9, 0), 4);
        check.finding(longer, "longer chain(9, 0)", 9, 5, 1, 0);
    }

    private static void chainBothWays() {
        check.promise("promise 21");
        SightRidge x = Check.withProfile("0,50,0,50m9,0,0");
        // From 2 neither way leads out before 1 has a mast, as 3 sees nothing behind the hill on 1.
        check.due("chain(2, 0)", x.chain(2, 0), NONE);
        check.due("chain(2, 5)", x.chain(2, 5), 3);
        check.finding(x, "chain(2, 5)", 2, 3, 5);
        x.mast(1, 9);
        check.due("chain(0, 5)", x.chain(0, 5), 4);
        check.finding(x, "chain(0, 5)", 0, 1, 3, 5);
        SightRidge back = Check.withProfile("0m3,40m50,0,30,0");
        // From 2 the way to 4 goes back to the high mast on 1.
        check.due("chain(2, 4)", back.chain(2, 4), 3);
        check.finding(back, "chain(2, 4)", 2, 1, 4);
    }

    private static void chainNone() {
        check.promise("promise 21");
        SightRidge x = new SightRidge();
        x.reset(6, 10);
        x.setRange(2);
        check.error(x, "chain(0, 5) before any finding", () -> x.chain(0, 5), NONE);
        check.due("finding(-1)", x.finding(NONE), STATE);
        check.due("chain(2, 4)", x.chain(2, 4), 2);
        check.error(x, "chain(0, 5)", () -> x.chain(0, 5), NONE);
        check.finding(x, "after no chain was found", 2, 4);
        x.mast(2, 1);
        check.error(x, "chain(0, 5) with one mast too few", () -> x.chain(0, 5), NONE);
        x.mast(4, 1);
        check.due("chain(0, 5)", x.chain(0, 5), 4);
        check.finding(x, "chain(0, 5)", 0, 2, 4, 5);
        x.mast(0, 200);
        x.mast(5, 200);
        x.mast(4, 0);
        check.error(x, "chain(0, 5) with masts at its ends alone", () -> x.chain(0, 5), NONE);
    }

    private static void newMasts() {
        check.promise("promise 22");
        SightRidge x = new SightRidge();
        x.reset(5, 0);
        x.setRange(2);
        check.due("newMasts(0, 4, 1)", x.newMasts(0, 4, 1), 3);
        check.finding(x, "newMasts(0, 4, 1)", 0, 2, 4);
        check.due("newMasts(4, 1, 1)", x.newMasts(4, 1, 1), 3);
        check.finding(x, "newMasts(4, 1, 1)", 4, 2, 1);
        check.masts(x, "after newMasts()", 0, 0, 0, 0, 0);
        check.due("count(6)", x.count(6), 2);
        check.due("newMasts(3, 3, 200)", x.newMasts(3, 3, 200), 1);
        check.finding(x, "newMasts(3, 3, 200)", 3);
        x.mast(3, 9);
        check.due("newMasts(3, 3, 200) with a mast", x.newMasts(3, 3, 200), 0);
        check.finding(x, "newMasts(3, 3, 200) with a mast", 3);
        check.due("newMasts(3, 4, 200)", x.newMasts(3, 4, 200), 1);
        check.finding(x, "newMasts(3, 4, 200)", 3, 4);
    }

    private static void newMastsFewest() {
        check.promise("promise 22");
        SightRidge x = Check.withProfile("0,0m1,0,0m1,0");
        x.setRange(2);
        // By 2 there were fewer stations, but a mast more.
        check.due("newMasts(0, 4, 1)", x.newMasts(0, 4, 1), 2);
        check.finding(x, "newMasts(0, 4, 1)", 0, 1, 3, 4);
        x.setRange(4);
        check.due("newMasts(0, 4, 1) in range 4", x.newMasts(0, 4, 1), 2);
        check.finding(x, "newMasts(0, 4, 1) in range 4", 0, 4);
        SightRidge tie = Check.withProfile("0,0*4m5,0");
        tie.setRange(4);
        check.due("newMasts(5, 0, 5)", tie.newMasts(5, 0, 5), 2);
        check.finding(tie, "newMasts(5, 0, 5)", 5, 1, 0);
        SightRidge line = Check.withProfile("0,0*18m1,0");
        line.setRange(1);
        check.due("newMasts(0, 19, 1)", line.newMasts(0, 19, 1), 2);
        check.due("finding(-1)", line.finding(NONE), 20);
        check.due("finding(19)", line.finding(19), 19);
        SightRidge bare = new SightRidge();
        bare.reset(20, 0);
        bare.setRange(1);
        check.due("newMasts(19, 0, 1)", bare.newMasts(19, 0, 1), 20);
        check.due("finding(0)", bare.finding(0), 19);
        check.due("finding(19)", bare.finding(19), 0);
    }

    private static void newMastsBeforeStations() {
        check.promise("promise 22");
        SightRidge x = Check.withProfile("50,50*17m1,50,999");
        x.setBulge(2);
        // The summit on 19 sees all, but it would be a third new mast; the others see their neighbors alone.
        check.due("newMasts(0, 18, 1)", x.newMasts(0, 18, 1), 2);
        check.due("finding(-1)", x.finding(NONE), 19);
        check.due("finding(18)", x.finding(18), 18);
        x.mast(19, 1);
        check.due("newMasts(0, 18, 1) by the summit", x.newMasts(0, 18, 1), 2);
        check.finding(x, "newMasts(0, 18, 1) by the summit", 0, 19, 18);
    }

    private static void newMastsOverHills() {
        check.promise("promise 22");
        SightRidge x = Check.withProfile("0,10,0");
        check.due("newMasts(0, 2, 10)", x.newMasts(0, 2, 10), 2);
        check.finding(x, "newMasts(0, 2, 10)", 0, 2);
        check.due("newMasts(0, 2, 9)", x.newMasts(0, 2, 9), 3);
        check.finding(x, "newMasts(0, 2, 9)", 0, 1, 2);
        x.mast(0, 1);
        // A mast that stands stays as it is: 1 and 18 don't see each other over the hill.
        check.due("newMasts(0, 2, 18)", x.newMasts(0, 2, 18), 2);
        check.finding(x, "newMasts(0, 2, 18)", 0, 1, 2);
        check.due("newMasts(0, 2, 19)", x.newMasts(0, 2, 19), 1);
        check.finding(x, "newMasts(0, 2, 19)", 0, 2);
        x.setRange(1);
        check.due("newMasts(0, 2, 19) in range 1", x.newMasts(0, 2, 19), 2);
        check.finding(x, "newMasts(0, 2, 19) in range 1", 0, 1, 2);
    }

    private static void vital() {
        check.promise("promise 23");
        SightRidge x = Check.withProfile("0m1,0m1,0,0m1,0m1");
        x.setRange(2);
        check.due("vital(0, 4)", x.vital(0, 4), 0b01010);
        check.finding(x, "vital(0, 4)", 1, 3);
        check.due("vital(4, 0)", x.vital(4, 0), 0b01010);
        check.masts(x, "after vital()", 1, 1, 0, 1, 1);
        check.due("vital(0, 3)", x.vital(0, 3), 0b00010);
        check.finding(x, "vital(0, 3)", 1);
        x.mast(2, 5);
        check.due("vital(0, 4) with 2", x.vital(0, 4), 0);
        check.finding(x, "vital(0, 4) with 2");
        check.due("vital(0, 1)", x.vital(0, 1), 0);
        check.due("vital(2, 2)", x.vital(2, 2), 0);
        check.finding(x, "vital(2, 2)");
        x.setRange(1);
        check.due("vital(0, 4) in range 1", x.vital(0, 4), 0b01110);
        check.finding(x, "vital(0, 4) in range 1", 1, 2, 3);
        SightRidge part = Check.withProfile("0,0m1,0m1,0m1,0,0m1,0");
        part.setRange(2);
        check.due("vital(0, 6)", part.vital(0, 6), 0b0101000);
        check.finding(part, "vital(0, 6)", 3, 5);
        SightRidge line = Check.withProfile("0,0*18m1,0");
        line.setRange(1);
        check.due("vital(0, 19)", line.vital(0, 19), 0x7FFFE);
        check.due("finding(-1)", line.finding(NONE), 18);
        check.due("finding(17)", line.finding(17), 18);
    }

    private static void vitalWithoutChain() {
        check.promise("promise 23");
        SightRidge x = Check.withProfile("0m1,0m1,0,0,0m1");
        x.setRange(1);
        check.error(x, "vital(0, 4) before any finding", () -> x.vital(0, 4), STATE);
        check.due("finding(-1)", x.finding(NONE), STATE);
        x.chain(0, 2);
        check.error(x, "vital(0, 4)", () -> x.vital(0, 4), STATE);
        check.finding(x, "after no chain was found", 0, 1, 2);
    }

    private static void finding() {
        check.promise("promise 24");
        SightRidge x = Check.withProfile("0*5m1,0");
        check.error(x, "finding(-1) at first", () -> x.finding(-1), STATE);
        check.error(x, "finding(0) at first", () -> x.finding(0), STATE);
        check.error(x, "finding(99) at first", () -> x.finding(99), STATE);
        check.error(x, "finding(-2) at first", () -> x.finding(-2), BAD);
        x.setRange(2);
        x.chain(5, 0);
        check.due("finding(-1)", x.finding(-1), 4);
        check.finding(x, "chain(5, 0)", 5, 3, 1, 0);
        check.error(x, "finding(4)", () -> x.finding(4), NONE);
        check.error(x, "finding(19)", () -> x.finding(19), NONE);
        check.error(x, "finding(20)", () -> x.finding(20), NONE);
        check.error(x, "finding(most)", () -> x.finding(Integer.MAX_VALUE), NONE);
        check.error(x, "finding(-2)", () -> x.finding(-2), BAD);
        check.error(x, "finding(least)", () -> x.finding(Integer.MIN_VALUE), BAD);
        x.vital(0, 1);
        check.due("finding(-1) of an empty set", x.finding(-1), 0);
        check.error(x, "finding(0) of an empty set", () -> x.finding(0), NONE);
        check.error(x, "finding(-2) of an empty set", () -> x.finding(-2), BAD);
    }

    private static void findingStays() {
        check.promise("promise 24");
        SightRidge x = Check.withProfile("0*9m1,0");
        x.setRange(3);
        x.chain(9, 0);
        x.reset(2, 0);
        x.undo();
        x.undo();
        x.clearText();
        x.neededMast(0, 1);
        x.growth(0, 1, 0);
        x.farthest();
        x.groups();
        x.watched(3);
        x.digest();
        x.setRange(1);
        x.reset(2, 5);
        check.finding(x, "as it was found", 9, 6, 3, 0);
        x.watch(3);
        check.finding(x, "watch(3)", 0);
        x.newMasts(1, 0, 1);
        check.finding(x, "newMasts(1, 0, 1)", 1, 0);
        x.vital(0, 1);
        check.finding(x, "vital(0, 1)");
    }

    private static void groups() {
        check.promise("promise 25");
        SightRidge x = new SightRidge();
        check.due("groups() of two", x.groups(), 1);
        x.reset(20, 0);
        check.due("groups() of a plain", x.groups(), 1);
        x.setRange(1);
        x.setBulge(9);
        for (int s = 1; s < 20; s += 2) {
            x.setGround(s, 999);
        }
        // Neighbors are always in contact, so no hills make two groups.
        check.due("groups() between hills", x.groups(), 1);
        check.due("count(6)", x.count(6), 10);
    }

    private static void wrongArguments() {
        SightRidge x = new SightRidge();
        x.reset(5, 1);
        x.chain(3, 2);
        for (int wrong : new int[] {-1, 5, 31, 32, 37, Integer.MIN_VALUE, Integer.MAX_VALUE}) {
            check.promise("promise 21");
            check.error(x, "chain(" + wrong + ", 0)", () -> x.chain(wrong, 0), BAD);
            check.error(x, "chain(0, " + wrong + ")", () -> x.chain(0, wrong), BAD);
            check.error(x, "chain(" + wrong + ") to itself", () -> x.chain(wrong, wrong), BAD);
            check.promise("promise 22");
            check.error(x, "newMasts(" + wrong + ", 0, 1)", () -> x.newMasts(wrong, 0, 1), BAD);
            check.error(x, "newMasts(0, " + wrong + ", 1)", () -> x.newMasts(0, wrong, 1), BAD);
            check.promise("promise 23");
            check.error(x, "vital(" + wrong + ", 0)", () -> x.vital(wrong, 0), BAD);
            check.error(x, "vital(0, " + wrong + ")", () -> x.vital(0, wrong), BAD);
        }
        check.promise("promise 22");
        check.error(x, "newMasts(0, 1, 0)", () -> x.newMasts(0, 1, 0), BAD);
        check.error(x, "newMasts(0, 1, 201)", () -> x.newMasts(0, 1, 201), BAD);
        check.error(x, "newMasts(0, 1, -1)", () -> x.newMasts(0, 1, -1), BAD);
        check.finding(x, "after errors", 3, 2);
    }
}
