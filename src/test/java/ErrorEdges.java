import java.util.function.ToLongFunction;

/** The sentences on errors: which one is returned, and that a call that returns one changes nothing. */
final class ErrorEdges {
    private static final int BAD = -2, STATE = -3, FULL = -4, NONE = -1;
    private static final int LEAST = Integer.MIN_VALUE, MOST = Integer.MAX_VALUE;

    private final Check check;

    ErrorEdges(Check check) {
        this.check = check;
    }

    void all() {
        badChanges();
        badQuestions();
        badSearches();
        notPossibleNow();
        full();
        firstOfSeveral();
        noneOnlyWithoutError();
    }

    /** Five stations in range 1 with one relay missing; a finding, a text with a fault, and a history gone round. */
    private static SightRidge busy() {
        SightRidge x = new SightRidge();
        for (int i = 0; i < 13; i++) {
            x.setBulge(i % 10);
            x.reset(2 + i, i);
        }
        Check.typeAll(x, "7,8m9,9*2,6m200");
        x.load();
        x.setRange(1);
        x.chain(2, 1);
        Check.typeAll(x, "1,2*0");
        return x;
    }

    /** The same with neither a finding nor a history, and with a text of 120 bytes. */
    private static SightRidge bare() {
        SightRidge x = new SightRidge();
        Check.typeAll(x, "9".repeat(120));
        return x;
    }

    private void nothingChanges(String call, ToLongFunction<SightRidge> asking, long want) {
        check.refused(ErrorEdges::busy, call, asking, want);
    }

    private void badChanges() {
        check.sentence(0, "A call that returns an error changes nothing.");
        for (int no : new int[] {-1, 5, 14, 19, 20, LEAST, MOST}) {
            nothingChanges("setGround(" + no + ", 0)", x -> x.setGround(no, 0), BAD);
            nothingChanges("slope(" + no + ", 4)", x -> x.slope(no, 4), BAD);
            nothingChanges("slope(0, " + no + ")", x -> x.slope(0, no), BAD);
            nothingChanges("mast(" + no + ", 0)", x -> x.mast(no, 0), BAD);
        }
        for (int no : new int[] {-1, 1000, LEAST, MOST}) {
            nothingChanges("setGround(0, " + no + ")", x -> x.setGround(0, no), BAD);
            nothingChanges("reset(9, " + no + ")", x -> x.reset(9, no), BAD);
            nothingChanges("mast(0, " + no + ")", x -> x.mast(0, no), BAD);
            nothingChanges("setRange(" + no + ")", x -> x.setRange(no), BAD);
            nothingChanges("setBulge(" + no + ")", x -> x.setBulge(no), BAD);
            nothingChanges("reset(" + no + ", 0)", x -> x.reset(no, 0), BAD);
            nothingChanges("type(" + no + ")", x -> x.type(no), BAD);
        }
        nothingChanges("reset(1, 0)", x -> x.reset(1, 0), BAD);
        nothingChanges("reset(21, 0)", x -> x.reset(21, 0), BAD);
        nothingChanges("slope(2, 2)", x -> x.slope(2, 2), BAD);
        nothingChanges("slope(3, 2)", x -> x.slope(3, 2), BAD);
        nothingChanges("mast(0, 201)", x -> x.mast(0, 201), BAD);
        nothingChanges("setRange(0)", x -> x.setRange(0), BAD);
        nothingChanges("setRange(20)", x -> x.setRange(20), BAD);
        nothingChanges("setBulge(10)", x -> x.setBulge(10), BAD);
        nothingChanges("type(128)", x -> x.type(128), BAD);
    }

    private void badQuestions() {
        check.sentence(0, "BAD: an argument is out of range, or names something that does not exist.");
        for (int no : new int[] {-1, 5, 14, 19, 20, LEAST, MOST}) {
            nothingChanges("station(" + no + ", 0)", x -> x.station(no, 0), BAD);
            nothingChanges("sees(" + no + ", 0)", x -> x.sees(no, 0), BAD);
            nothingChanges("sees(0, " + no + ")", x -> x.sees(0, no), BAD);
            nothingChanges("obstacle(" + no + ", 0, 0)", x -> x.obstacle(no, 0, 0), BAD);
            nothingChanges("obstacle(0, " + no + ", 0)", x -> x.obstacle(0, no, 0), BAD);
            nothingChanges("neededMast(" + no + ", 0)", x -> x.neededMast(no, 0), BAD);
            nothingChanges("neededMast(0, " + no + ")", x -> x.neededMast(0, no), BAD);
            nothingChanges("growth(" + no + ", 0, 0)", x -> x.growth(no, 0, 0), BAD);
            nothingChanges("growth(0, " + no + ", 0)", x -> x.growth(0, no, 0), BAD);
            nothingChanges("shadow(" + no + ", 0, 0)", x -> x.shadow(no, 0, 0), BAD);
        }
        for (int no : new int[] {-1, 9, LEAST, MOST}) {
            nothingChanges("station(0, " + no + ")", x -> x.station(0, no), BAD);
            nothingChanges("obstacle(0, 4, " + no + ")", x -> x.obstacle(0, 4, no), BAD);
            nothingChanges("growth(0, 4, " + no + ")", x -> x.growth(0, 4, no), BAD);
            nothingChanges("shadow(0, 0, " + no + ")", x -> x.shadow(0, 0, no), BAD);
            nothingChanges("count(" + no + ")", x -> x.count(no), BAD);
        }
        nothingChanges("station(0, 6)", x -> x.station(0, 6), BAD);
        nothingChanges("obstacle(0, 4, 2)", x -> x.obstacle(0, 4, 2), BAD);
        nothingChanges("growth(0, 4, 3)", x -> x.growth(0, 4, 3), BAD);
        nothingChanges("shadow(0, 0, 2)", x -> x.shadow(0, 0, 2), BAD);
        nothingChanges("shadow(0, -1, 0)", x -> x.shadow(0, -1, 0), BAD);
        nothingChanges("obstacle(3, 3, 0)", x -> x.obstacle(3, 3, 0), BAD);
        nothingChanges("neededMast(3, 3)", x -> x.neededMast(3, 3), BAD);
        nothingChanges("growth(3, 3, 0)", x -> x.growth(3, 3, 0), BAD);
    }

    private void badSearches() {
        check.sentence(0, "A call that returns an error changes nothing.");
        for (int no : new int[] {-1, 5, 14, 19, 20, LEAST, MOST}) {
            nothingChanges("chain(" + no + ", 1)", x -> x.chain(no, 1), BAD);
            nothingChanges("chain(1, " + no + ")", x -> x.chain(1, no), BAD);
            nothingChanges("newMasts(" + no + ", 1, 9)", x -> x.newMasts(no, 1, 9), BAD);
            nothingChanges("newMasts(1, " + no + ", 9)", x -> x.newMasts(1, no, 9), BAD);
            nothingChanges("vital(" + no + ", 1)", x -> x.vital(no, 1), BAD);
            nothingChanges("vital(1, " + no + ")", x -> x.vital(1, no), BAD);
        }
        for (int no : new int[] {0, -1, 201, LEAST, MOST}) {
            nothingChanges("newMasts(0, 4, " + no + ")", x -> x.newMasts(0, 4, no), BAD);
            nothingChanges("watch(" + no + ")", x -> x.watch(no), BAD);
        }
        for (int no : new int[] {-1, 32, 33, 63, LEAST, MOST}) {
            nothingChanges("watched(" + no + ")", x -> x.watched(no), BAD);
        }
        for (int no : new int[] {-2, -3, LEAST}) {
            nothingChanges("finding(" + no + ")", x -> x.finding(no), BAD);
        }
        nothingChanges("chain(0, 4), which finds none", x -> x.chain(0, 4), NONE);
    }

    private void notPossibleNow() {
        check.sentence(0, "STATE: the call is not possible now, as the method says.");
        nothingChanges("load() of a text with a fault", SightRidge::load, STATE);
        nothingChanges("vital(0, 4) without a chain", x -> x.vital(0, 4), STATE);
        check.refused(ErrorEdges::bare, "load() of digits alone", SightRidge::load, STATE);
        check.refused(ErrorEdges::bare, "undo() of nothing", SightRidge::undo, STATE);
        check.refused(ErrorEdges::bare, "finding(0) of nothing", x -> x.finding(0), STATE);
        check.refused(SightRidge::new, "load() of an empty text", SightRidge::load, STATE);
        check.refused(SightRidge::new, "undo() of a new object", SightRidge::undo, STATE);
        check.refused(SightRidge::new, "finding(-1) of a new object", x -> x.finding(NONE), STATE);
    }

    private void full() {
        check.sentence(0, "FULL: a limit would be exceeded.");
        for (int letter : new int[] {0, ' ', '1', 127}) {
            check.refused(ErrorEdges::bare, "type(" + letter + ") to 120 bytes", x -> x.type(letter), FULL);
        }
    }

    private void firstOfSeveral() {
        check.sentence(0, "If several errors apply, the one that comes first in this list is returned.");
        for (int letter : new int[] {-1, 128, LEAST, MOST}) {
            check.refused(ErrorEdges::bare, "type(" + letter + ") to 120 bytes", x -> x.type(letter), BAD);
        }
        check.refused(ErrorEdges::bare, "finding(-2) of nothing", x -> x.finding(-2), BAD);
        check.refused(ErrorEdges::bare, "finding(least) of nothing", x -> x.finding(LEAST), BAD);
        nothingChanges("vital(0, 5), where no chain is", x -> x.vital(0, 5), BAD);
        nothingChanges("vital(-1, 4), where no chain is", x -> x.vital(-1, 4), BAD);
    }

    private void noneOnlyWithoutError() {
        check.sentence(0, "NONE is no error; it means that there is no such thing, and is returned only if no error "
            + "applies.");
        nothingChanges("obstacle(0, 1, 0) of neighbors", x -> x.obstacle(0, 1, 0), NONE);
        nothingChanges("obstacle(0, 1, 2) of neighbors", x -> x.obstacle(0, 1, 2), BAD);
        nothingChanges("shadow(0, 99, 0)", x -> x.shadow(0, 99, 0), NONE);
        nothingChanges("shadow(0, 99, 2)", x -> x.shadow(0, 99, 2), BAD);
        nothingChanges("shadow(5, 99, 0)", x -> x.shadow(5, 99, 0), BAD);
        nothingChanges("chain(0, 3)", x -> x.chain(0, 3), NONE);
        nothingChanges("finding(2) of two", x -> x.finding(2), NONE);
        check.refused(ErrorEdges::bare, "finding(2) of nothing", x -> x.finding(2), STATE);
        SightRidge high = Check.withProfile("0,999,0");
        check.due("neededMast(0, 2) over a summit", high.neededMast(0, 2), NONE);
        check.error(high, "neededMast(0, 3)", () -> high.neededMast(0, 3), BAD);
        check.due("growth(0, 2, 0) over a summit", high.growth(0, 2, 0), NONE);
        check.error(high, "growth(0, 2, 3)", () -> high.growth(0, 2, 3), BAD);
    }
}
