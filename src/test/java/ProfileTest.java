/** Promises 1 to 9: the profile, its changes and the history. */
public final class ProfileTest {
    private static final Check check = new Check();
    private static final int BAD = -2, STATE = -3, NONE = -1;

    public static void main(String[] args) {
        newObject();
        objectsApart();
        reset();
        setGround();
        slope();
        slopeRounding();
        mast();
        reverse();
        setRange();
        setBulge();
        undo();
        undoRestoresAll();
        historyDropsTheOldest();
        historyAfterManyTurns();
        everyChangeIsRecorded();
        check.finish();
    }

    private static void newObject() {
        check.promise("promise 1");
        SightRidge x = new SightRidge();
        check.grounds(x, "new", 0, 0);
        check.masts(x, "new", 0, 0);
        int[] counts = {2, 0, 19, 0, 1, 1, 0, 0, 0};
        for (int what = 0; what < counts.length; what++) {
            check.due("count(" + what + ")", x.count(what), counts[what]);
        }
        check.due("finding(-1)", x.finding(NONE), STATE);
        check.due("undo()", x.undo(), STATE);
        check.due("fault()", x.fault(), 0);
        check.due("BAD", SightRidge.BAD, -2);
        check.due("STATE", SightRidge.STATE, -3);
        check.due("FULL", SightRidge.FULL, -4);
        check.due("NONE", SightRidge.NONE, -1);
    }

    private static void objectsApart() {
        check.promise("promise 1");
        SightRidge one = new SightRidge();
        SightRidge other = new SightRidge();
        one.reset(7, 5);
        one.type('1');
        one.chain(0, 1);
        check.grounds(other, "the other object", 0, 0);
        check.due("the other's count(6)", other.count(6), 0);
        check.due("the other's count(7)", other.count(7), 0);
        check.due("the other's finding(-1)", other.finding(NONE), STATE);
    }

    private static void reset() {
        check.promise("promise 2");
        SightRidge x = new SightRidge();
        x.setRange(3);
        x.setBulge(2);
        x.mast(1, 9);
        x.chain(1, 0);
        Check.typeAll(x, "12");
        check.due("reset(5, 7)", x.reset(5, 7), 5);
        check.grounds(x, "after reset(5, 7)", 7, 7, 7, 7, 7);
        check.masts(x, "after reset(5, 7)", 0, 0, 0, 0, 0);
        check.due("count(2)", x.count(2), 3);
        check.due("count(3)", x.count(3), 2);
        check.due("count(6)", x.count(6), 4);
        check.due("count(7)", x.count(7), 2);
        check.finding(x, "after reset", 1, 0);
        check.due("reset(20, 999)", x.reset(20, 999), 20);
        check.due("station(19, 0)", x.station(19, 0), 999);
        check.due("station(20, 0)", x.station(20, 0), BAD);
        check.due("reset(2, 0)", x.reset(2, 0), 2);
        check.grounds(x, "after reset(2, 0)", 0, 0);
        check.due("station(2, 0)", x.station(2, 0), BAD);
        check.error(x, "reset(1, 0)", () -> x.reset(1, 0), BAD);
        check.error(x, "reset(21, 0)", () -> x.reset(21, 0), BAD);
        check.error(x, "reset(2, -1)", () -> x.reset(2, -1), BAD);
        check.error(x, "reset(2, 1000)", () -> x.reset(2, 1000), BAD);
        check.error(x, "reset(least)", () -> x.reset(Integer.MIN_VALUE, 0), BAD);
        check.error(x, "reset(most)", () -> x.reset(2, Integer.MAX_VALUE), BAD);
        check.due("undo()", x.undo(), 5);
        check.due("count(0)", x.count(0), 20);
    }

    private static void setGround() {
        check.promise("promise 3");
        SightRidge x = Check.withProfile("5,6m7,8");
        check.due("setGround(1, 999)", x.setGround(1, 999), 6);
        check.due("setGround(1, 0)", x.setGround(1, 0), 999);
        check.due("setGround(0, 1)", x.setGround(0, 1), 5);
        check.due("setGround(2, 2)", x.setGround(2, 2), 8);
        check.grounds(x, "after setGround()", 1, 0, 2);
        check.masts(x, "after setGround()", 0, 7, 0);
        check.due("setGround(2, 2) again", x.setGround(2, 2), 2);
        check.due("count(6)", x.count(6), 6);
        check.error(x, "setGround(-1, 0)", () -> x.setGround(-1, 0), BAD);
        check.error(x, "setGround(3, 0)", () -> x.setGround(3, 0), BAD);
        check.error(x, "setGround(0, -1)", () -> x.setGround(0, -1), BAD);
        check.error(x, "setGround(0, 1000)", () -> x.setGround(0, 1000), BAD);
        check.error(x, "setGround(most)", () -> x.setGround(Integer.MAX_VALUE, 0), BAD);
        check.error(x, "setGround(least)", () -> x.setGround(Integer.MIN_VALUE, 0), BAD);
        check.due("undo()", x.undo(), 5);
        check.due("undo()", x.undo(), 4);
        check.grounds(x, "after undo()", 1, 0, 8);
    }

    private static void slope() {
        check.promise("promise 4");
        SightRidge x = Check.withProfile("9,0,7m3,2,8,6");
        check.due("slope(1, 4)", x.slope(1, 4), 2);
        check.grounds(x, "after slope(1, 4)", 9, 0, 2, 5, 8, 6);
        check.masts(x, "after slope(1, 4)", 0, 0, 3, 0, 0, 0);
        check.due("slope(1, 4) again", x.slope(1, 4), 0);
        check.due("slope(2, 3)", x.slope(2, 3), 0);
        check.due("count(6)", x.count(6), 4);
        check.due("slope(0, 5)", x.slope(0, 5), 4);
        check.grounds(x, "after slope(0, 5)", 9, 9, 8, 8, 7, 6);
        check.error(x, "slope(1, 1)", () -> x.slope(1, 1), BAD);
        check.error(x, "slope(3, 1)", () -> x.slope(3, 1), BAD);
        check.error(x, "slope(-1, 1)", () -> x.slope(-1, 1), BAD);
        check.error(x, "slope(0, 6)", () -> x.slope(0, 6), BAD);
        check.error(x, "slope(0, most)", () -> x.slope(0, Integer.MAX_VALUE), BAD);
        check.error(x, "slope(6, 7)", () -> x.slope(6, 7), BAD);
        check.due("undo()", x.undo(), 4);
        check.grounds(x, "after undo()", 9, 0, 2, 5, 8, 6);
    }

    private static void slopeRounding() {
        check.promise("promise 4");
        SightRidge up = Check.withProfile("0,99,99,5");
        check.due("slope(0, 3)", up.slope(0, 3), 2);
        check.grounds(up, "up", 0, 1, 3, 5);
        SightRidge down = Check.withProfile("5,99,2,0");
        check.due("slope(0, 3)", down.slope(0, 3), 1);
        check.grounds(down, "down", 5, 4, 2, 0);
        SightRidge longest = Check.withProfile("999,0*18,1");
        check.due("slope(0, 19)", longest.slope(0, 19), 18);
        check.due("station(1, 0)", longest.station(1, 0), 947);
        check.due("station(18, 0)", longest.station(18, 0), 54);
    }

    private static void mast() {
        check.promise("promise 5");
        SightRidge x = Check.withProfile("5,6m7,8");
        check.due("mast(0, 200)", x.mast(0, 200), 0);
        check.due("mast(1, 1)", x.mast(1, 1), 7);
        check.due("mast(2, 0)", x.mast(2, 0), 0);
        check.masts(x, "after mast()", 200, 1, 0);
        check.grounds(x, "after mast()", 5, 6, 8);
        check.due("mast(0, 0)", x.mast(0, 0), 200);
        check.masts(x, "after mast(0, 0)", 0, 1, 0);
        check.due("count(1)", x.count(1), 1);
        check.due("count(6)", x.count(6), 5);
        check.error(x, "mast(-1, 1)", () -> x.mast(-1, 1), BAD);
        check.error(x, "mast(3, 1)", () -> x.mast(3, 1), BAD);
        check.error(x, "mast(0, 201)", () -> x.mast(0, 201), BAD);
        check.error(x, "mast(0, -1)", () -> x.mast(0, -1), BAD);
        check.due("undo()", x.undo(), 4);
        check.masts(x, "after undo()", 200, 1, 0);
    }

    private static void reverse() {
        check.promise("promise 6");
        SightRidge x = Check.withProfile("1,2m3,4,5m6,7");
        check.due("reverse()", x.reverse(), 4);
        check.grounds(x, "after reverse()", 7, 5, 4, 2, 1);
        check.masts(x, "after reverse()", 0, 6, 0, 3, 0);
        check.due("undo()", x.undo(), 1);
        check.grounds(x, "after undo()", 1, 2, 4, 5, 7);
        SightRidge even = Check.withProfile("1,2m3,4m3,1");
        check.due("reverse()", even.reverse(), 2);
        check.grounds(even, "after reverse()", 1, 4, 2, 1);
        check.masts(even, "after reverse()", 0, 3, 3, 0);
        SightRidge byMast = Check.withProfile("8m1,9,8m2");
        check.due("reverse()", byMast.reverse(), 2);
        check.masts(byMast, "after reverse()", 2, 0, 1);
        SightRidge same = Check.withProfile("8m1,9m5,8m1");
        check.due("reverse()", same.reverse(), 0);
        check.due("count(6)", same.count(6), 2);
        check.masts(same, "after reverse()", 1, 5, 1);
    }

    private static void setRange() {
        check.promise("promise 7");
        SightRidge x = new SightRidge();
        check.due("setRange(1)", x.setRange(1), 19);
        check.due("setRange(19)", x.setRange(19), 1);
        check.due("setRange(7)", x.setRange(7), 19);
        check.due("setRange(7) again", x.setRange(7), 7);
        check.due("count(2)", x.count(2), 7);
        check.due("count(6)", x.count(6), 4);
        check.error(x, "setRange(0)", () -> x.setRange(0), BAD);
        check.error(x, "setRange(20)", () -> x.setRange(20), BAD);
        check.error(x, "setRange(-1)", () -> x.setRange(-1), BAD);
        x.undo();
        x.undo();
        check.due("count(2) after undo()", x.count(2), 19);
    }

    private static void setBulge() {
        check.promise("promise 8");
        SightRidge x = new SightRidge();
        check.due("setBulge(9)", x.setBulge(9), 0);
        check.due("setBulge(0)", x.setBulge(0), 9);
        check.due("setBulge(4)", x.setBulge(4), 0);
        check.due("setBulge(4) again", x.setBulge(4), 4);
        check.due("count(3)", x.count(3), 4);
        check.due("count(6)", x.count(6), 4);
        check.error(x, "setBulge(-1)", () -> x.setBulge(-1), BAD);
        check.error(x, "setBulge(10)", () -> x.setBulge(10), BAD);
        x.undo();
        x.undo();
        check.due("count(3) after undo()", x.count(3), 0);
    }

    private static void undo() {
        check.promise("promise 9");
        SightRidge x = new SightRidge();
        check.error(x, "undo() of nothing", x::undo, STATE);
        x.reset(3, 4);
        x.setGround(0, 9);
        check.due("undo()", x.undo(), 1);
        check.grounds(x, "after undo()", 4, 4, 4);
        x.mast(2, 8);
        check.due("undo()", x.undo(), 1);
        check.masts(x, "after undo()", 0, 0, 0);
        check.due("undo()", x.undo(), 0);
        check.grounds(x, "after undo()", 0, 0);
        check.error(x, "undo() at the end", x::undo, STATE);
    }

    private static void undoRestoresAll() {
        check.promise("promise 9");
        SightRidge x = Check.withProfile("1m2,3m4,5");
        x.setRange(2);
        x.setBulge(3);
        x.setRange(11);
        x.setBulge(6);
        x.reset(9, 9);
        x.chain(4, 5);
        Check.typeAll(x, "123");
        check.due("undo()", x.undo(), 5);
        check.grounds(x, "after undo()", 1, 3, 5);
        check.masts(x, "after undo()", 2, 4, 0);
        check.due("count(3)", x.count(3), 6);
        check.due("undo()", x.undo(), 4);
        check.due("count(3)", x.count(3), 3);
        check.due("count(2)", x.count(2), 11);
        check.due("undo()", x.undo(), 3);
        check.due("count(2)", x.count(2), 2);
        check.due("count(7), which is no part of a state", x.count(7), 3);
        check.finding(x, "the finding, which is no part of a state", 4, 5);
    }

    private static void historyDropsTheOldest() {
        check.promise("promise 9");
        SightRidge x = new SightRidge();
        for (int i = 1; i <= 13; i++) {
            x.setGround(0, i);
            check.due("count(6) after " + i, x.count(6), Math.min(i, 10));
        }
        for (int i = 9; i >= 0; i--) {
            check.due("undo()", x.undo(), i);
            check.due("station(0, 0)", x.station(0, 0), i + 3);
        }
        check.due("undo()", x.undo(), STATE);
        check.due("station(0, 0)", x.station(0, 0), 3);
    }

    private static void historyAfterManyTurns() {
        check.promise("promise 9");
        SightRidge x = new SightRidge();
        for (int i = 1; i <= 37; i++) {
            x.setGround(1, i);
        }
        for (int i = 0; i < 4; i++) {
            x.undo();
        }
        check.due("station(1, 0)", x.station(1, 0), 33);
        for (int i = 101; i <= 106; i++) {
            x.setGround(1, i);
        }
        check.due("count(6)", x.count(6), 10);
        for (int i = 105; i >= 101; i--) {
            x.undo();
            check.due("station(1, 0)", x.station(1, 0), i);
        }
        for (int i = 33; i >= 29; i--) {
            x.undo();
            check.due("station(1, 0)", x.station(1, 0), i);
        }
        check.due("undo()", x.undo(), STATE);
    }

    private static void everyChangeIsRecorded() {
        check.promise("promise 9");
        SightRidge x = new SightRidge();
        x.reset(2, 0);
        x.setGround(0, 0);
        x.slope(0, 1);
        x.mast(0, 0);
        x.reverse();
        x.setRange(19);
        x.setBulge(0);
        Check.typeAll(x, "0,0");
        x.load();
        check.due("count(6) after changes that alter nothing", x.count(6), 8);
        x.type('1');
        x.clearText();
        x.chain(0, 1);
        x.watch(1);
        x.digest();
        check.due("count(6) after calls that are no changes", x.count(6), 8);
    }
}
