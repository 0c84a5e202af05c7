/** Promises 10 to 13: the text, its fault, and the profile that it describes. */
public final class TextTest {
    private static final Check check = new Check();
    private static final int BAD = -2, STATE = -3, FULL = -4, NONE = -1;

    public static void main(String[] args) {
        type();
        clearText();
        soundTexts();
        textsThatEndTooEarly();
        bytesOutOfPlace();
        numbersOutOfRange();
        tooManyStations();
        leastOfSeveralFaults();
        faultOnly();
        load();
        loadWithFault();
        loadFullLine();
        check.finish();
    }

    private static void type() {
        check.promise("promise 10");
        SightRidge x = new SightRidge();
        check.error(x, "type(-1)", () -> x.type(-1), BAD);
        check.error(x, "type(128)", () -> x.type(128), BAD);
        check.error(x, "type(256 + '1')", () -> x.type(256 + '1'), BAD);
        check.due("type(0)", x.type(0), 1);
        check.due("type(127)", x.type(127), 2);
        for (int i = 3; i <= 120; i++) {
            check.due("type('1')", x.type('1'), i);
        }
        check.due("count(7)", x.count(7), 120);
        check.error(x, "type() to a full text", () -> x.type('1'), FULL);
        check.error(x, "type(128) to a full text", () -> x.type(128), BAD);
        check.due("count(6)", x.count(6), 0);
    }

    private static void clearText() {
        check.promise("promise 11");
        SightRidge x = new SightRidge();
        check.due("clearText()", x.clearText(), 0);
        Check.typeAll(x, "12,");
        check.due("clearText()", x.clearText(), 3);
        check.due("count(7)", x.count(7), 0);
        check.due("fault()", x.fault(), 0);
        check.due("type('7')", x.type('7'), 1);
        for (int i = 2; i <= 121; i++) {
            x.type(' ');
        }
        check.due("clearText() of a full text", x.clearText(), 120);
        check.due("clearText() again", x.clearText(), 0);
        check.due("count(6)", x.count(6), 0);
    }

    private static void fault(String text, int want) {
        SightRidge x = new SightRidge();
        Check.typeAll(x, text);
        check.due("fault() of \"" + text + "\"", x.fault(), want);
        check.due("load() of \"" + text + "\" tells a fault", x.load() == STATE ? 1 : 0, want == NONE ? 0 : 1);
    }

    private static void soundTexts() {
        check.promise("promise 12");
        String[] sound = {"1,2", "0,0", "999,000", "1*1,2", "1*001,2", "1*19,2", "2,1*19", "1m1,2", "1m200,2",
            "1m020,2", "1*2m3,4*5m6,7", " 1 * 2 m 3 , 4 ", "   1,2   ", "1  ,  2", "1,2 *  3  m 4", "1*19,1*1",
            "1*10,2*9,3", "1*10,2*10", "1,1,1,1,1,1,1,1,1,1,1,1,1,1,1,1,1,1,1,1", "07,08m09"};
        for (String text : sound) {
            fault(text, NONE);
        }
        String blanks = " ".repeat(117);
        fault("1," + blanks + "2", NONE);
        fault(blanks + "1,2", NONE);
        fault("1,2" + blanks, NONE);
    }

    private static void textsThatEndTooEarly() {
        check.promise("promise 12");
        String[] cut = {"", " ", "   ", "1", "123", "1 ", "1*", "1* ", "1*2", "1*2 ", "1*2m", "1*2m3", "1m", "1m3 ",
            "1,", "1, ", "1,2,", "1,2*", "1,2m", "1,2,3 , ", "1*20", "1*20,", "1*20, ", "1*19,2,",
            "1,1,1,1,1,1,1,1,1,1,1,1,1,1,1,1,1,1,1,1,"};
        for (String text : cut) {
            fault(text, text.length());
        }
        fault(" ".repeat(120), 120);
    }

    private static void bytesOutOfPlace() {
        check.promise("promise 12");
        fault("a", 0);
        fault(" a", 1);
        fault(",1", 0);
        fault("*2,1", 0);
        fault("m2,1", 0);
        fault("-1,2", 0);
        fault("1.5,2", 1);
        fault("1M2,3", 1);
        fault("1,,2", 2);
        fault("1,2,,", 4);
        fault("1,2x", 3);
        fault("1,2 x", 4);
        fault("1;2", 1);
        fault("1/2", 1);
        fault("1:2", 1);
        fault("/,2", 0);
        fault(":,2", 0);
        fault("1 2,3", 2);
        fault("1,2 3", 4);
        fault("1*2 0,3", 4);
        fault("1m2 0,3", 4);
        fault("1**2,3", 2);
        fault("1*,3", 2);
        fault("1*m3,3", 2);
        fault("1m,3", 2);
        fault("1mm2,3", 2);
        fault("1m*2,3", 2);
        fault("1m2*3,4", 3);
        fault("1m2m3,4", 3);
        fault("1*2*3,4", 3);
        fault("1*2m3*4,5", 5);
        fault("1234,5", 3);
        fault("0000,5", 3);
        fault("5,1234", 5);
        fault("1*0011,2", 5);
        fault("1m1000,2", 5);
        fault("1\t,2", 1);
        fault("1,\t2", 2);
        fault("\0", 0);
        fault("1,2\0", 3);
        fault("1,2\n", 3);
        fault("1,2\177", 3);
    }

    private static void numbersOutOfRange() {
        check.promise("promise 12");
        fault("1*0,2", 2);
        fault("1*00,2", 2);
        fault("1*000,2", 2);
        fault("1*0", 2);
        fault("1* 0 ,2", 3);
        fault("1m0,2", 2);
        fault("1m000,2", 2);
        fault("1m201,2", 2);
        fault("1m999,2", 2);
        fault("1m  201,2", 4);
        fault("1m0", 2);
        fault("1*3m0,2", 4);
        fault("1,2m0", 4);
        fault("1,2m201", 4);
        fault("1,2*0", 4);
        fault("1,2,3*4m300", 8);
    }

    private static void tooManyStations() {
        check.promise("promise 12");
        fault("1*21,2", 2);
        fault("1*021,2", 2);
        fault("1*21", 2);
        fault("1*999,2", 2);
        fault("1*20,2", 5);
        fault("1*20, 2", 6);
        fault("1*20,999", 5);
        fault("1*19,1*2", 7);
        fault("1*19,1*02", 7);
        fault("1*19,1*0", 7);
        fault("1*19,1,1", 7);
        fault("1,2*20", 4);
        fault("1*10,2*11", 7);
        fault("1*10,2*10,3", 10);
        fault("1*10,2*10m5 , 3*4", 14);
        fault("1,1,1,1,1,1,1,1,1,1,1,1,1,1,1,1,1,1,1,1,1", 40);
    }

    private static void leastOfSeveralFaults() {
        check.promise("promise 12");
        fault("1m0,,", 2);
        fault("1*0x", 2);
        fault("1*21,x", 2);
        fault("1*20,x", 5);
        fault("1*20,,", 5);
        fault("1*20,1*0", 5);
        fault("1*20,1234", 5);
        fault("1*20m0,1", 5);
        fault("1*20x,1", 4);
        fault("1m2010,2", 2);
        fault("1m0001,2", 2);
        fault("1*0001,2", 2);
        fault("1*2010,2", 2);
        fault("1234m0", 3);
        fault("1x,2m0", 1);
        fault("1 1*0", 2);
    }

    private static void faultOnly() {
        check.promise("promise 12");
        SightRidge x = new SightRidge();
        Check.typeAll(x, "1*3,2m201");
        check.due("fault()", x.fault(), 6);
        check.due("fault() again", x.fault(), 6);
        check.due("count(7)", x.count(7), 9);
        check.due("count(6)", x.count(6), 0);
        check.grounds(x, "after fault()", 0, 0);
        x.clearText();
        Check.typeAll(x, "1*3,2m200");
        check.due("fault()", x.fault(), NONE);
        check.grounds(x, "after fault()", 0, 0);
        check.due("count(7)", x.count(7), 9);
    }

    private static void load() {
        check.promise("promise 13");
        SightRidge x = new SightRidge();
        x.setRange(4);
        x.setBulge(5);
        x.mast(0, 50);
        x.chain(1, 0);
        Check.typeAll(x, " 12 * 2 m 34 , 5*03 ,678 m 9");
        check.due("load()", x.load(), 6);
        check.grounds(x, "after load()", 12, 12, 5, 5, 5, 678);
        check.masts(x, "after load()", 34, 34, 0, 0, 0, 9);
        check.due("count(2)", x.count(2), 4);
        check.due("count(3)", x.count(3), 5);
        check.due("count(6)", x.count(6), 4);
        check.due("count(7)", x.count(7), 0);
        check.finding(x, "after load()", 1, 0);
        check.error(x, "load() of the emptied text", x::load, STATE);
        check.due("undo()", x.undo(), 3);
        check.grounds(x, "after undo()", 0, 0);
        check.masts(x, "after undo()", 50, 0);
        check.due("count(7) after undo()", x.count(7), 0);
        Check.typeAll(x, "007,1*1m200");
        check.due("load()", x.load(), 2);
        check.grounds(x, "after load()", 7, 1);
        check.masts(x, "after load()", 0, 200);
    }

    private static void loadWithFault() {
        check.promise("promise 13");
        SightRidge x = Check.withProfile("3,4,5");
        check.error(x, "load() of no text", x::load, STATE);
        Check.typeAll(x, "9,9,9,9m0");
        check.error(x, "load() of a text with a fault", x::load, STATE);
        check.due("count(7)", x.count(7), 9);
        check.grounds(x, "after load()", 3, 4, 5);
        check.due("count(6)", x.count(6), 1);
        check.due("type('8')", x.type('8'), 10);
        check.due("fault()", x.fault(), NONE);
        check.due("load() after it was mended", x.load(), 4);
        check.masts(x, "after load()", 0, 0, 0, 8);
    }

    private static void loadFullLine() {
        check.promise("promise 13");
        SightRidge x = Check.withProfile("1*18m2,3,999m200");
        check.due("count(0)", x.count(0), 20);
        check.due("station(17, 1)", x.station(17, 1), 2);
        check.due("station(18, 1)", x.station(18, 1), 0);
        check.due("station(19, 2)", x.station(19, 2), 1199);
        check.due("count(8)", x.count(8), 236);
        Check.typeAll(x, "1,2");
        check.due("load() of a shorter line", x.load(), 2);
        check.due("station(2, 0)", x.station(2, 0), BAD);
        check.due("undo()", x.undo(), 1);
        check.due("station(19, 2) after undo()", x.station(19, 2), 1199);
    }
}
