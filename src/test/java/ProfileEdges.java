/** The edges in the sentences of promises 1 to 9, and in those on the profile, its changes and the history. */
final class ProfileEdges {
    private static final int BAD = -2, STATE = -3, NONE = -1;
    private static final int[] FAR = {Integer.MIN_VALUE, -1000, 1_000_000, Integer.MAX_VALUE};

    private final Check check;

    ProfileEdges(Check check) {
        this.check = check;
    }

    void all() {
        stationsOfALine();
        heights();
        tops();
        rangeAndBulge();
        changes();
        history();
        undoneStates();
        newObject();
        reset();
        setGround();
        slope();
        slopeRounding();
        mast();
        reverse();
        setRange();
        setBulge();
        undo();
        undoAfterWrap();
    }

    private static SightRidge line(int stations, int ground) {
        SightRidge x = new SightRidge();
        x.reset(stations, ground);
        return x;
    }

    private void stationsOfALine() {
        check.sentence(0, "There are 2 to 20 stations, numbered from 0,");
        for (int stations : new int[] {2, 3, 19, 20}) {
            SightRidge x = line(20, 999);
            check.due("reset(" + stations + ", 5)", x.reset(stations, 5), stations);
            check.due("count(0)", x.count(0), stations);
            check.due("the first station's ground", x.station(0, 0), 5);
            check.due("the last station's ground", x.station(stations - 1, 0), 5);
            check.due("the ground after the last station", x.station(stations, 0), BAD);
            check.due("the ground before the first station", x.station(-1, 0), BAD);
        }
    }

    private void heights() {
        check.sentence(0, "Each has a ground height from 0 to 999, and may have a mast, whose height is from 1 to "
            + "200.");
        SightRidge x = line(20, 7);
        for (int s : new int[] {0, 19}) {
            check.error(x, "setGround(" + s + ", -1)", () -> x.setGround(s, -1), BAD);
            check.error(x, "setGround(" + s + ", 1000)", () -> x.setGround(s, 1000), BAD);
            check.due("setGround(" + s + ", 999)", x.setGround(s, 999), 7);
            check.due("setGround(" + s + ", 0)", x.setGround(s, 0), 999);
            check.due("its ground", x.station(s, 0), 0);
            check.error(x, "mast(" + s + ", -1)", () -> x.mast(s, -1), BAD);
            check.error(x, "mast(" + s + ", 201)", () -> x.mast(s, 201), BAD);
            check.due("mast(" + s + ", 200)", x.mast(s, 200), 0);
            check.due("mast(" + s + ", 1)", x.mast(s, 1), 200);
            check.due("its mast", x.station(s, 1), 1);
        }
    }

    private void tops() {
        check.sentence(0, "The top of a station is its ground height plus the height of its mast, if it has one.");
        SightRidge x = Check.withProfile("0,999,0m1,999m200");
        int[] tops = {0, 999, 1, 1199};
        for (int s = 0; s < tops.length; s++) {
            check.due("station(" + s + ", 2)", x.station(s, 2), tops[s]);
        }
        x.mast(3, 0);
        check.due("station(3, 2) without its mast", x.station(3, 2), 999);
    }

    private void rangeAndBulge() {
        check.sentence(0, "There is a range from 1 to 19, at first 19, and a bulge from 0 to 9, at first 0.");
        SightRidge x = new SightRidge();
        check.due("count(2) at first", x.count(2), 19);
        check.due("count(3) at first", x.count(3), 0);
        for (int range : new int[] {0, 20}) {
            check.error(x, "setRange(" + range + ")", () -> x.setRange(range), BAD);
        }
        for (int bulge : new int[] {-1, 10}) {
            check.error(x, "setBulge(" + bulge + ")", () -> x.setBulge(bulge), BAD);
        }
        x.setRange(1);
        x.setBulge(9);
        check.due("count(2) at its least", x.count(2), 1);
        check.due("count(3) at its most", x.count(3), 9);
    }

    private void changes() {
        check.sentence(0, "Changes are the calls of reset(), setGround(), slope(), mast(), reverse(), setRange(), "
            + "setBulge() and load() that return no error.");
        SightRidge x = new SightRidge();
        Check.typeAll(x, "0,0");
        int[] answers = {x.reset(2, 0), x.setGround(0, 0), x.slope(0, 1), x.mast(0, 0), x.reverse(), x.setRange(19),
            x.setBulge(0), x.load()};
        int[] due = {2, 0, 0, 0, 0, 19, 0, 2};
        for (int i = 0; i < due.length; i++) {
            check.due("the answer of change " + i, answers[i], due[i]);
        }
        check.due("count(6) after eight that alter nothing", x.count(6), 8);
        check.error(x, "reset(1, 0)", () -> x.reset(1, 0), BAD);
        check.error(x, "setGround(2, 0)", () -> x.setGround(2, 0), BAD);
        check.error(x, "slope(0, 0)", () -> x.slope(0, 0), BAD);
        check.error(x, "mast(0, 201)", () -> x.mast(0, 201), BAD);
        check.error(x, "setRange(0)", () -> x.setRange(0), BAD);
        check.error(x, "setBulge(10)", () -> x.setBulge(10), BAD);
        check.error(x, "load()", x::load, STATE);
        check.due("count(6) after seven errors", x.count(6), 8);
        int[] asked = {x.type('1'), x.fault(), x.clearText(), x.station(0, 0), x.sees(0, 1), x.obstacle(0, 1, 0),
            x.neededMast(0, 1), x.growth(0, 1, 0), x.shadow(0, 0, 0), x.farthest(), x.chain(0, 1),
            x.newMasts(0, 1, 1), x.vital(0, 1), x.finding(0), x.groups(), x.watch(1), x.watched(1), x.count(0)};
        check.due("count(6) after " + asked.length + " calls that are no changes", x.count(6), 8);
    }

    private void history() {
        check.sentence(0, "A history of at most 10 states is kept: each change records the state before it, and when "
            + "one more is recorded, the oldest one is dropped.");
        for (int changes : new int[] {1, 9, 10, 11, 12, 20, 21, 31}) {
            SightRidge x = new SightRidge();
            for (int i = 1; i <= changes; i++) {
                x.setGround(0, i);
            }
            int kept = Math.min(changes, 10);
            check.due("count(6) after " + changes + " changes", x.count(6), kept);
            for (int i = 1; i <= kept; i++) {
                check.due("undo() " + i + " of " + changes, x.undo(), kept - i);
                check.due("the ground after it", x.station(0, 0), changes - i);
            }
            check.error(x, "undo() of a state that was dropped", x::undo, STATE);
        }
    }

    private void undoneStates() {
        check.sentence(0, "A state consists of the stations with their ground heights and masts, the range and the "
            + "bulge.");
        SightRidge x = line(20, 999);
        x.mast(0, 200);
        x.mast(19, 1);
        x.setRange(1);
        x.setBulge(9);
        x.reset(2, 0);
        x.setRange(19);
        x.setBulge(0);
        Check.typeAll(x, "1,");
        x.chain(1, 0);
        x.undo();
        x.undo();
        check.due("count(0) after two calls of undo()", x.count(0), 2);
        check.due("count(2)", x.count(2), 1);
        check.due("count(3)", x.count(3), 9);
        x.undo();
        check.due("count(0) after the third", x.count(0), 20);
        check.due("the first station's top", x.station(0, 2), 1199);
        check.due("the last station's top", x.station(19, 2), 1000);
        check.due("count(8)", x.count(8), 201);
        check.due("count(7), as the text is no part of a state", x.count(7), 2);
        check.finding(x, "as the finding is no part of a state", 1, 0);
    }

    private void newObject() {
        check.sentence(1, "Creates a workbench with two stations of ground height 0, without masts, and an empty "
            + "text.");
        SightRidge x = new SightRidge();
        check.grounds(x, "new", 0, 0);
        check.masts(x, "new", 0, 0);
        check.due("station(2, 0)", x.station(2, 0), BAD);
        check.due("count(7)", x.count(7), 0);
        check.due("clearText()", x.clearText(), 0);
        check.due("fault() of the empty text", x.fault(), 0);
        check.due("load() of the empty text", x.load(), STATE);
        check.due("count(6)", x.count(6), 0);
        check.due("undo()", x.undo(), STATE);
        check.due("finding(-1)", x.finding(NONE), STATE);
    }

    private void reset() {
        check.sentence(2, "`stations`: the number of stations, 2 to 20");
        SightRidge x = Check.withProfile("9*2m9,9");
        for (int stations : new int[] {1, 21, 0, -1, -2}) {
            check.error(x, "reset(" + stations + ", 0)", () -> x.reset(stations, 0), BAD);
        }
        check.sentence(2, "`ground`: the ground height of all of them, 0 to 999");
        for (int ground : new int[] {-1, 1000}) {
            check.error(x, "reset(2, " + ground + ")", () -> x.reset(2, ground), BAD);
            check.error(x, "reset(20, " + ground + ")", () -> x.reset(20, ground), BAD);
        }
        for (int far : FAR) {
            check.error(x, "reset(" + far + ", 0)", () -> x.reset(far, 0), BAD);
            check.error(x, "reset(2, " + far + ")", () -> x.reset(2, far), BAD);
        }
        check.sentence(2, "Makes a new profile without masts; range and bulge stay. This is a change.");
        x.setRange(1);
        x.setBulge(9);
        check.due("reset(3, 999)", x.reset(3, 999), 3);
        check.grounds(x, "after reset(3, 999)", 999, 999, 999);
        check.masts(x, "after reset(3, 999)", 0, 0, 0);
        check.due("count(2)", x.count(2), 1);
        check.due("count(3)", x.count(3), 9);
        check.due("count(6)", x.count(6), 4);
        check.due("reset(20, 0)", x.reset(20, 0), 20);
        check.due("count(1)", x.count(1), 0);
        for (int s = 0; s < 20; s++) {
            check.due("station(" + s + ", 2)", x.station(s, 2), 0);
        }
        check.due("reset(20, 0), as it is", x.reset(20, 0), 20);
        check.due("count(6)", x.count(6), 6);
    }

    private void setGround() {
        check.sentence(3, "`station`: the station");
        SightRidge x = line(20, 4);
        x.reset(2, 6);
        for (int s : new int[] {-1, 2, 3, 19, 20}) {
            check.error(x, "setGround(" + s + ", 0)", () -> x.setGround(s, 0), BAD);
        }
        check.sentence(3, "`ground`: the height, 0 to 999");
        for (int ground : new int[] {-1, 1000}) {
            check.error(x, "setGround(1, " + ground + ")", () -> x.setGround(1, ground), BAD);
        }
        for (int far : FAR) {
            check.error(x, "setGround(" + far + ", 0)", () -> x.setGround(far, 0), BAD);
            check.error(x, "setGround(0, " + far + ")", () -> x.setGround(0, far), BAD);
        }
        check.sentence(3, "Returns the height that it had; BAD.");
        check.due("setGround(1, 0)", x.setGround(1, 0), 6);
        check.due("setGround(1, 999)", x.setGround(1, 999), 0);
        check.due("setGround(1, 999), as it is", x.setGround(1, 999), 999);
        check.due("count(6)", x.count(6), 5);
        check.grounds(x, "after setGround()", 6, 999);
    }

    private void slope() {
        check.sentence(4, "`b`: the other one, greater than a");
        SightRidge x = Check.withProfile("0,9,3");
        check.error(x, "slope(1, 1)", () -> x.slope(1, 1), BAD);
        check.error(x, "slope(0, 0)", () -> x.slope(0, 0), BAD);
        check.error(x, "slope(2, 0)", () -> x.slope(2, 0), BAD);
        check.error(x, "slope(0, 3)", () -> x.slope(0, 3), BAD);
        check.error(x, "slope(-1, 2)", () -> x.slope(-1, 2), BAD);
        check.error(x, "slope(-1, -1)", () -> x.slope(-1, -1), BAD);
        check.error(x, "slope(3, 3)", () -> x.slope(3, 3), BAD);
        for (int far : FAR) {
            check.error(x, "slope(" + far + ", 2)", () -> x.slope(far, 2), BAD);
            check.error(x, "slope(0, " + far + ")", () -> x.slope(0, far), BAD);
        }
        check.sentence(4, "Returns how many ground heights became different; BAD.");
        check.due("slope(0, 1), with no station between", x.slope(0, 1), 0);
        check.due("slope(1, 2), with no station between", x.slope(1, 2), 0);
        check.grounds(x, "after them", 0, 9, 3);
        check.due("count(6), as both are changes", x.count(6), 3);
        check.due("slope(0, 2)", x.slope(0, 2), 1);
        check.grounds(x, "after slope(0, 2)", 0, 1, 3);
        check.due("slope(0, 2), as it is even", x.slope(0, 2), 0);
        SightRidge later = Check.withProfile("9,0,9,3,9");
        check.due("slope(1, 3), not from the start", later.slope(1, 3), 1);
        check.grounds(later, "after slope(1, 3)", 9, 0, 1, 3, 9);
        SightRidge all = Check.withProfile("999,0*18,999");
        check.due("slope(0, 19) of all", all.slope(0, 19), 18);
        check.due("slope(0, 19) of none", all.slope(0, 19), 0);
        check.due("the ground of 18", all.station(18, 0), 999);
    }

    private void slopeRounding() {
        check.sentence(4, "where the division rounds toward zero.");
        SightRidge down = Check.withProfile("5,0,4");
        down.slope(0, 2);
        check.grounds(down, "-1 * 1 / 2 is 0", 5, 5, 4);
        SightRidge up = Check.withProfile("4,0,5");
        up.slope(0, 2);
        check.grounds(up, "1 * 1 / 2 is 0", 4, 4, 5);
        SightRidge thirds = Check.withProfile("10,0,0,5");
        thirds.slope(0, 3);
        // -5 / 3 is -1, and -10 / 3 is -3.
        check.grounds(thirds, "-5 / 3 and -10 / 3", 10, 9, 7, 5);
        SightRidge steep = Check.withProfile("999,1*18,0");
        steep.slope(0, 19);
        // -999 * 1 / 19 is -52, and -999 * 18 / 19 is -946.
        check.due("the ground of 1", steep.station(1, 0), 947);
        check.due("the ground of 18", steep.station(18, 0), 53);
    }

    private void mast() {
        check.sentence(5, "`height`: the height of the mast, 1 to 200, or 0 to remove it");
        SightRidge x = line(20, 4);
        x.mast(19, 5);
        x.reset(2, 4);
        for (int height : new int[] {-1, 201}) {
            check.error(x, "mast(1, " + height + ")", () -> x.mast(1, height), BAD);
        }
        for (int s : new int[] {-1, 2, 19, 20}) {
            check.error(x, "mast(" + s + ", 1)", () -> x.mast(s, 1), BAD);
            check.error(x, "mast(" + s + ", 0)", () -> x.mast(s, 0), BAD);
        }
        for (int far : FAR) {
            check.error(x, "mast(" + far + ", 0)", () -> x.mast(far, 0), BAD);
            check.error(x, "mast(0, " + far + ")", () -> x.mast(0, far), BAD);
        }
        check.sentence(5, "Returns the height of the mast that it had, or 0; BAD.");
        check.due("mast(1, 0), where none is", x.mast(1, 0), 0);
        check.due("count(6), as that is a change", x.count(6), 4);
        check.due("mast(1, 200)", x.mast(1, 200), 0);
        check.due("mast(1, 200), as it is", x.mast(1, 200), 200);
        check.due("mast(1, 1)", x.mast(1, 1), 200);
        check.due("mast(1, 0)", x.mast(1, 0), 1);
        check.masts(x, "after it was removed", 0, 0);
        check.due("count(1)", x.count(1), 0);
    }

    private void reverse() {
        check.sentence(6, "Reverses the order of the stations, with their ground heights and masts. This is a change.");
        SightRidge x = Check.withProfile("1,2,3");
        x.setGround(0, 9);
        x.mast(2, 4);
        check.due("reverse() of what was changed", x.reverse(), 2);
        check.grounds(x, "after reverse()", 3, 2, 9);
        check.masts(x, "after reverse()", 4, 0, 0);
        SightRidge shorter = line(20, 8);
        shorter.reset(2, 1);
        shorter.setGround(1, 5);
        check.due("reverse() of two stations", shorter.reverse(), 2);
        check.grounds(shorter, "after reverse()", 5, 1);
        check.sentence(6, "Returns how many stations have another ground height or mast than before.");
        check.due("reverse() of two like stations", new SightRidge().reverse(), 0);
        SightRidge same = line(20, 1);
        check.due("reverse() of twenty like stations", same.reverse(), 0);
        check.due("count(6), as that is a change", same.count(6), 2);
        same.mast(0, 1);
        check.due("reverse() with one mast at the end", same.reverse(), 2);
        check.due("station(19, 1)", same.station(19, 1), 1);
        check.due("station(0, 1)", same.station(0, 1), 0);
        SightRidge all = Check.withProfile("1*10,2*10");
        check.due("reverse() of twenty", all.reverse(), 20);
        SightRidge middle = Check.withProfile("1*9,5m3,2*9");
        check.due("reverse() about the middle station", middle.reverse(), 18);
        check.due("the middle station's top", middle.station(9, 2), 8);
    }

    private void setRange() {
        check.sentence(7, "`range`: the range, 1 to 19");
        SightRidge x = new SightRidge();
        for (int range : new int[] {0, 20, -1}) {
            check.error(x, "setRange(" + range + ")", () -> x.setRange(range), BAD);
        }
        for (int far : FAR) {
            check.error(x, "setRange(" + far + ")", () -> x.setRange(far), BAD);
        }
        check.sentence(7, "Returns the range before; BAD.");
        check.due("setRange(19), as it is", x.setRange(19), 19);
        check.due("setRange(1)", x.setRange(1), 19);
        check.due("setRange(1), as it is", x.setRange(1), 1);
        check.due("setRange(18)", x.setRange(18), 1);
        check.due("count(6)", x.count(6), 4);
        check.due("count(2), beyond a line of two", x.count(2), 18);
    }

    private void setBulge() {
        check.sentence(8, "`bulge`: the bulge, 0 to 9");
        SightRidge x = new SightRidge();
        for (int bulge : new int[] {-1, 10}) {
            check.error(x, "setBulge(" + bulge + ")", () -> x.setBulge(bulge), BAD);
        }
        for (int far : FAR) {
            check.error(x, "setBulge(" + far + ")", () -> x.setBulge(far), BAD);
        }
        check.sentence(8, "Returns the bulge before; BAD.");
        check.due("setBulge(0), as it is", x.setBulge(0), 0);
        check.due("setBulge(9)", x.setBulge(9), 0);
        check.due("setBulge(9), as it is", x.setBulge(9), 9);
        check.due("setBulge(0)", x.setBulge(0), 9);
        check.due("count(6)", x.count(6), 4);
    }

    private void undo() {
        check.sentence(9, "Returns how many states are left in the history; STATE if there is none.");
        SightRidge x = new SightRidge();
        check.error(x, "undo() at first", x::undo, STATE);
        x.setGround(0, 1000);
        check.error(x, "undo() after a call that was refused", x::undo, STATE);
        x.setGround(0, 5);
        check.due("undo() of the only change", x.undo(), 0);
        check.grounds(x, "after undo()", 0, 0);
        check.error(x, "undo() again", x::undo, STATE);
        check.due("undo(), as it is no change itself", x.undo(), STATE);
        for (int i = 1; i <= 10; i++) {
            x.setGround(0, i);
        }
        for (int i = 9; i >= 0; i--) {
            check.due("undo() of a full history", x.undo(), i);
        }
        check.error(x, "undo() of all ten and one more", x::undo, STATE);
    }

    private void undoAfterWrap() {
        check.sentence(9, "Restores the latest state of the history.");
        SightRidge x = new SightRidge();
        for (int i = 1; i <= 15; i++) {
            x.setGround(0, i);
        }
        for (int i = 14; i >= 8; i--) {
            x.undo();
            check.due("the ground after undo()", x.station(0, 0), i);
        }
        check.due("count(6)", x.count(6), 3);
        for (int i = 101; i <= 107; i++) {
            x.setGround(0, i);
        }
        check.due("count(6), full again", x.count(6), 10);
        x.setGround(0, 108);
        int[] before = {107, 106, 105, 104, 103, 102, 101, 8, 7, 6};
        for (int ground : before) {
            x.undo();
            check.due("the ground after undo()", x.station(0, 0), ground);
        }
        check.error(x, "undo() of what was dropped", x::undo, STATE);
    }
}
