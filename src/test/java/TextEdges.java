/** The edges in the sentences of promises 10 to 13, and in those on texts and their faults. */
final class TextEdges {
    private static final int BAD = -2, STATE = -3, FULL = -4, NONE = -1;
    private static final String DIGITS = "0123456789";

    private final Check check;

    TextEdges(Check check) {
        this.check = check;
    }

    void all() {
        lengthOfTexts();
        partsOfProfiles();
        partsOfStations();
        numbers();
        blanks();
        bytesThatCannotStand();
        bytesAfterNumbers();
        numbersOutOfRange();
        tooManyStations();
        twentyFirstStation();
        endsTooEarly();
        severalFaults();
        type();
        typeFull();
        clearText();
        fault();
        load();
        loadWithFault();
    }

    private static SightRidge typed(String text) {
        SightRidge x = new SightRidge();
        Check.typeAll(x, text);
        return x;
    }

    private void faultIs(String text, int want) {
        SightRidge x = typed(text);
        check.due("fault() of \"" + text + "\"", x.fault(), want);
        if (want != NONE) {
            check.error(x, "load() of \"" + text + "\"", x::load, STATE);
        }
    }

    private void loads(String text, int... grounds) {
        SightRidge x = typed(text);
        check.due("fault() of \"" + text + "\"", x.fault(), NONE);
        check.due("load() of \"" + text + "\"", x.load(), grounds.length);
        check.grounds(x, "\"" + text + "\"", grounds);
    }

    private void lengthOfTexts() {
        check.sentence(0, "There is a text of at most 120 bytes, which describes a profile:");
        loads("1," + " ".repeat(117) + "2", 1, 2);
        loads("1,2" + " ".repeat(117), 1, 2);
        faultIs("1," + " ".repeat(117) + "x", 119);
        faultIs("1," + " ".repeat(117) + ",", 119);
        faultIs("1," + " ".repeat(118), 120);
        faultIs(" ".repeat(120), 120);
        SightRidge x = typed("1," + " ".repeat(116) + "23");
        check.due("type('4') to a full text", x.type('4'), FULL);
        check.due("load() of what was typed before", x.load(), 2);
        check.due("station(1, 0)", x.station(1, 0), 23);
    }

    private void partsOfProfiles() {
        check.sentence(0, "profile = station \",\" station { \",\" station }");
        faultIs("1", 1);
        faultIs("1*5", 3);
        faultIs("1*20m5", 6);
        loads("1,2", 1, 2);
        loads("1,2,3", 1, 2, 3);
        loads("1*1,2*1", 1, 2);
        faultIs(",1,2", 0);
        faultIs("1,,2", 2);
        faultIs("1,2,", 4);
        String twenty = "1" + ",1".repeat(19);
        check.due("load() of twenty stations", typed(twenty).load(), 20);
        faultIs(twenty + ",1", 40);
        faultIs(twenty + ",", 40);
    }

    private void partsOfStations() {
        check.sentence(0, "station = number [ \"*\" number ] [ \"m\" number ]");
        faultIs("1m2*3,4", 3);
        faultIs("1m2m3,4", 3);
        faultIs("1*2*3,4", 3);
        faultIs("m2,4", 0);
        faultIs("*2,4", 0);
        faultIs("1m*2,4", 2);
        faultIs("1*m2,4", 2);
        check.sentence(0, "\"*\" stands before how many successive stations are like this, at least 1 (otherwise it is "
            + "one); \"m\" stands before the height of the mast of each of them.");
        faultIs("1*0,2", 2);
        loads("1*1,2", 1, 2);
        loads("1,2*2", 1, 2, 2);
        loads("1*19,2", 1, 1, 1, 1, 1, 1, 1, 1, 1, 1, 1, 1, 1, 1, 1, 1, 1, 1, 1, 2);
        SightRidge x = typed("1*3m200,2m1,3");
        check.due("load()", x.load(), 5);
        check.masts(x, "after load()", 200, 200, 200, 1, 0);
    }

    private void numbers() {
        check.sentence(0, "A number has one to three digits, as many as there are.");
        loads("0,9", 0, 9);
        loads("10,99", 10, 99);
        loads("100,999", 100, 999);
        loads("00,000", 0, 0);
        loads("007,070", 7, 70);
        loads("1*002,3*02", 1, 1, 3, 3);
        SightRidge x = Check.withProfile("1m001,2m010,3m200");
        check.masts(x, "after load()", 1, 10, 200);
        faultIs("1000,2", 3);
        faultIs("0001,2", 3);
        faultIs("2,1000", 5);
        faultIs("1*0020,2", 5);
        faultIs("1m0020,2", 5);
        faultIs("1*,2", 2);
        faultIs("1m,2", 2);
    }

    private void blanks() {
        check.sentence(0, "Blanks (byte 32) can stand before and after each of these parts.");
        String[] parts = {"", "1", "*", "2", "m", "3", ",", "4", "*", "5", "m", "6"};
        for (int i = 0; i < parts.length; i++) {
            for (String blanks : new String[] {" ", "   ", " ".repeat(100)}) {
                String[] spaced = parts.clone();
                spaced[i] += blanks;
                SightRidge x = typed(String.join("", spaced));
                check.due("load() with blanks after \"" + parts[i] + "\", part " + i, x.load(), 7);
                check.grounds(x, "with blanks", 1, 1, 4, 4, 4, 4, 4);
                check.masts(x, "with blanks", 3, 3, 6, 6, 6, 6, 6);
            }
        }
        loads(" 1 , 2 ", 1, 2);
        for (int other : new int[] {0, 9, 10, 13, 31, 33, 127}) {
            faultIs((char) other + "1,2", 0);
            faultIs("1" + (char) other + ",2", 1);
            faultIs("1,2" + (char) other, 3);
        }
        faultIs("1 2,3", 2);
        faultIs("1,2 3", 4);
        faultIs("1*1 1,3", 4);
        faultIs("1m1 1,3", 4);
    }

    /** Of all bytes, those alone can stand next that are told; any other one is the fault. */
    private void next(String before, String allowed) {
        int wrong = 0;
        for (char letter = 0; letter < 128; letter++) {
            boolean fault = typed(before + letter).fault() == before.length();
            wrong += fault == allowed.indexOf(letter) >= 0 ? 1 : 0;
        }
        check.due("bytes taken wrongly after \"" + before + "\"", wrong, 0);
    }

    private void bytesThatCannotStand() {
        check.sentence(0, "The fault of a text is the index, from 0, of the first byte that cannot stand at its "
            + "place;");
        next("", DIGITS + " ");
        next("  ", DIGITS + " ");
        next("1*", "123456789 ");
        next("1* ", "123456789 ");
        next("1m", "123456789 ");
        next("1*2m", "123456789 ");
        next("1m ", "123456789 ");
        next("1,", DIGITS + " ");
        next("1, ", DIGITS + " ");
        next("1*19,", DIGITS + " ");
        next("1*20,", " ");
        next("1*20, ", " ");
        faultIs("1,2,3x", 5);
        faultIs("1,2,3 m4 x,5x", 9);
    }

    private void bytesAfterNumbers() {
        check.sentence(0, "The fault of a text is the index, from 0, of the first byte that cannot stand at its "
            + "place;");
        next("1", DIGITS + " *m,");
        next("12", DIGITS + " *m,");
        next("123", " *m,");
        next("123 ", " *m,");
        next("1*1", DIGITS + " m,");
        next("1*001", " m,");
        next("1*1 ", " m,");
        next("1m1", DIGITS + " ,");
        next("1m19", DIGITS + " ,");
        next("1m200", " ,");
        next("1m200 ", " ,");
        next("1*2m3", DIGITS + " ,");
        next("1,2", DIGITS + " *m,");
        next("1,999", " *m,");
        next("1,2*1", DIGITS + " m,");
        next("1,2*3m4 ", " ,");
    }

    private void numbersOutOfRange() {
        check.sentence(0, "this is also the first digit of a number that is out of its range,");
        for (String zero : new String[] {"0", "00", "000"}) {
            faultIs("1*" + zero + ",2", 2);
            faultIs("1m" + zero + ",2", 2);
            faultIs("1,2*" + zero, 4);
            faultIs("1,2m" + zero, 4);
            faultIs("1*2m" + zero + ",2", 4);
            faultIs("1 *  " + zero + " ,2", 5);
            faultIs("1 m  " + zero + " ,2", 5);
        }
        faultIs("1m201,2", 2);
        faultIs("1m999,2", 2);
        faultIs("1m 201 ,2", 3);
        faultIs("1,2*2m201", 6);
        loads("1m200,2m1", 1, 2);
    }

    private void tooManyStations() {
        check.sentence(0, "or because of which there would be more than 20 stations,");
        faultIs("1*21,2", 2);
        faultIs("1*021,2", 2);
        faultIs("1* 21 ,2", 3);
        faultIs("1*99,2", 2);
        faultIs("1*999,2", 2);
        faultIs("1,2*20", 4);
        faultIs("1,2*020", 4);
        faultIs("1*19,2*2", 7);
        faultIs("1*10,2*11", 7);
        faultIs("1*10,2*9,3*2", 11);
        loads("1*10,2*10", 1, 1, 1, 1, 1, 1, 1, 1, 1, 1, 2, 2, 2, 2, 2, 2, 2, 2, 2, 2);
        check.due("load() of 10, 9 and 1", typed("1*10,2*9,3*1").load(), 20);
        check.due("load() of 1 and 19", typed("1,2*19m5").load(), 20);
    }

    private void twentyFirstStation() {
        check.sentence(0, "and the first digit of the ground height of a 21st station;");
        for (String ground : new String[] {"0", "00", "000", "7", "999", "1234", "7*0", "7*1", "7m0", "0*21"}) {
            faultIs("1*20," + ground, 5);
            faultIs("1*20m5 ,  " + ground, 10);
            faultIs("1*19,2," + ground, 7);
            faultIs("1,2*19," + ground + ",3", 7);
        }
        check.due("load() of the 20th", typed("1*19,0").load(), 20);
    }

    private void endsTooEarly() {
        check.sentence(0, "and it is the length of the text if the text ends too early (also if there is no comma).");
        String[] cut = {"", " ", "1", "12", "123", "123 ", "1*", "1* ", "1*2", "1*20", "1*20 ", "1*2m", "1*2m ",
            "1*2m3", "1*20m200 ", "1m", "1m ", "1m3", "1m3 ", "1,", "1, ", "1,2,", "1,2, ", "1,2*", "1,2* ", "1,2m",
            "1,2m ", "1,2*3m", "1*20,", "1*20, ", "1*19,2,", "1,2*19,"};
        for (String text : cut) {
            faultIs(text, text.length());
        }
    }

    private void severalFaults() {
        check.sentence(0, "If a text has several faults, the one with the least index counts.");
        faultIs("1*21", 2);
        faultIs("1*0", 2);
        faultIs("1m201", 2);
        faultIs("1m0x", 2);
        faultIs("1m0*0", 2);
        faultIs("1*0m0,", 2);
        faultIs("1*21,x", 2);
        faultIs("1*21m201", 2);
        faultIs("1*20,x", 5);
        faultIs("1*20,,", 5);
        faultIs("1*20,1*0", 5);
        faultIs("1x,2*0", 1);
        faultIs("1,2x,3m0", 3);
        faultIs("1234m0", 3);
        faultIs("1m0001,2", 2);
        faultIs("1*0001,2", 2);
        faultIs("1*2110,2", 2);
        faultIs("1m2010,2", 2);
        faultIs("1m0010,2", 5);
        faultIs("xx", 0);
    }

    private void type() {
        check.sentence(10, "`letter`: the byte, 0 to 127");
        SightRidge x = new SightRidge();
        for (int letter : new int[] {-1, 128, 255, 256, 304, 305, -79, Integer.MIN_VALUE, Integer.MAX_VALUE}) {
            check.error(x, "type(" + letter + ")", () -> x.type(letter), BAD);
        }
        check.due("type(0)", x.type(0), 1);
        check.due("type(127)", x.type(127), 2);
        check.due("type(32)", x.type(32), 3);
        check.due("count(7)", x.count(7), 3);
        check.due("fault() of a byte 0", x.fault(), 0);
    }

    private void typeFull() {
        check.sentence(10, "Returns the length of the text; BAD; FULL if the text has 120 bytes.");
        SightRidge x = new SightRidge();
        for (int i = 1; i <= 120; i++) {
            check.due("type() of byte " + i, x.type(i), i);
        }
        for (int i = 0; i < 3; i++) {
            check.error(x, "type('1') to 120 bytes", () -> x.type('1'), FULL);
        }
        check.error(x, "type(128) to 120 bytes", () -> x.type(128), BAD);
        check.error(x, "type(-1) to 120 bytes", () -> x.type(-1), BAD);
        check.due("count(7)", x.count(7), 120);
        x.clearText();
        check.due("type() to the emptied text", x.type('1'), 1);
    }

    private void clearText() {
        check.sentence(11, "Returns the length that it had.");
        SightRidge x = new SightRidge();
        check.due("clearText() of an empty text", x.clearText(), 0);
        x.type(0);
        check.due("clearText() of one byte", x.clearText(), 1);
        Check.typeAll(x, "9".repeat(119));
        check.due("clearText() of 119 bytes", x.clearText(), 119);
        Check.typeAll(x, "9".repeat(121));
        check.due("clearText() of a full text", x.clearText(), 120);
        check.sentence(11, "Empties the text.");
        check.due("count(7)", x.count(7), 0);
        check.due("clearText() again", x.clearText(), 0);
        check.due("fault()", x.fault(), 0);
        check.due("load()", x.load(), STATE);
        check.due("count(6)", x.count(6), 0);
        Check.typeAll(x, "5,6");
        check.due("load() of what is typed anew", x.load(), 2);
        check.grounds(x, "after load()", 5, 6);
    }

    private void fault() {
        check.sentence(12, "Returns the index; NONE if there is no fault.");
        SightRidge x = new SightRidge();
        String text = "1*19, 999 m 200 ";
        int[] due = {0, 1, 2, 3, 4, 5, 6, NONE, NONE, NONE, NONE, 11, 12, NONE, NONE, NONE, NONE};
        for (int length = 0; length <= text.length(); length++) {
            check.due("fault() of the first " + length, x.fault(), due[length]);
            check.due("fault() of them again", x.fault(), due[length]);
            check.due("count(7)", x.count(7), length);
            if (length < text.length()) {
                x.type(text.charAt(length));
            }
        }
        check.grounds(x, "as fault() changes nothing", 0, 0);
        check.due("count(6)", x.count(6), 0);
    }

    private void load() {
        check.sentence(13, "Replaces the stations by those of the text, and empties the text; range and bulge stay. "
            + "This is a change.");
        SightRidge x = Check.withProfile("9*19m9,9m9");
        x.setRange(1);
        x.setBulge(9);
        Check.typeAll(x, "1,2m3");
        check.due("load()", x.load(), 2);
        check.grounds(x, "after load()", 1, 2);
        check.masts(x, "after load()", 0, 3);
        check.due("station(2, 0)", x.station(2, 0), BAD);
        check.due("count(2)", x.count(2), 1);
        check.due("count(3)", x.count(3), 9);
        check.due("count(6)", x.count(6), 4);
        check.due("count(7)", x.count(7), 0);
        check.due("fault() of the emptied text", x.fault(), 0);
        check.sentence(13, "Returns the number of stations; STATE if the text has a fault (the text stays then).");
        check.error(x, "load() of the emptied text", x::load, STATE);
        Check.typeAll(x, "5*19m200,999");
        check.due("load() of a full line", x.load(), 20);
        check.due("count(8)", x.count(8), 3800);
        check.due("station(19, 2)", x.station(19, 2), 999);
        x.undo();
        check.masts(x, "after undo()", 0, 3);
        check.due("count(7) after undo()", x.count(7), 0);
    }

    private void loadWithFault() {
        check.sentence(13, "Returns the number of stations; STATE if the text has a fault (the text stays then).");
        SightRidge x = Check.withProfile("3m4,5");
        Check.typeAll(x, "1*20,");
        check.error(x, "load() of a text that ends too early", x::load, STATE);
        x.type('0');
        check.error(x, "load() of a 21st station", x::load, STATE);
        check.due("count(7)", x.count(7), 6);
        check.due("fault()", x.fault(), 5);
        check.grounds(x, "after load()", 3, 5);
        check.masts(x, "after load()", 4, 0);
        check.due("count(6)", x.count(6), 1);
        x.clearText();
        Check.typeAll(x, "1*20");
        check.error(x, "load() without a comma", x::load, STATE);
        check.due("undo(), as no state was recorded", x.undo(), 0);
        check.due("count(7)", x.count(7), 4);
    }
}
