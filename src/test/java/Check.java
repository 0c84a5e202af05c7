import java.util.function.LongSupplier;

/** Compares answers with those that are due, and ends a test with exit code 1 if one differs. */
final class Check {
    static final int BAD = -2, STATE = -3, FULL = -4, NONE = -1;
    private static final int MOST_SHOWN = 40;

    private int asked = 0;
    private int wrong = 0;
    private String part = "";

    void promise(String name) {
        part = name;
    }

    void due(String call, long got, long want) {
        asked++;
        if (got != want) {
            wrong++;
            if (wrong <= MOST_SHOWN) {
                System.out.println(part + ": " + call + " answered " + got + ", due is " + want);
            }
        }
    }

    /** The call has to answer with this error and to leave the digest and the history as they were. */
    void error(SightRidge x, String call, LongSupplier asking, long want) {
        long digest = x.digest();
        due(call, asking.getAsLong(), want);
        due("digest() after " + call, x.digest(), digest);
    }

    void grounds(SightRidge x, String when, int... want) {
        property(x, when, 0, want);
    }

    void masts(SightRidge x, String when, int... want) {
        property(x, when, 1, want);
    }

    private void property(SightRidge x, String when, int what, int... want) {
        due(when + ": count(0)", x.count(0), want.length);
        for (int s = 0; s < want.length; s++) {
            due(when + ": station(" + s + ", " + what + ")", x.station(s, what), want[s]);
        }
    }

    void finding(SightRidge x, String when, int... want) {
        due(when + ": finding(-1)", x.finding(NONE), want.length);
        for (int i = 0; i < want.length; i++) {
            due(when + ": finding(" + i + ")", x.finding(i), want[i]);
        }
        due(when + ": finding(" + want.length + ")", x.finding(want.length), NONE);
    }

    void finish() {
        System.out.println(asked - wrong + " of " + asked + " answers are as due");
        if (wrong != 0 || asked == 0) {
            System.exit(1);
        }
    }

    static void typeAll(SightRidge x, String text) {
        for (int i = 0; i < text.length(); i++) {
            x.type(text.charAt(i));
        }
    }

    static SightRidge withProfile(String text) {
        SightRidge x = new SightRidge();
        typeAll(x, text);
        if (x.load() < 0) {
            throw new IllegalStateException("a test's own profile has a fault: " + text);
        }
        return x;
    }
}
