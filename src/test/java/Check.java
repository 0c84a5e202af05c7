import java.util.function.LongSupplier;
import java.util.function.Supplier;
import java.util.function.ToLongFunction;

/** Compares answers with those that are due, and ends a test with exit code 1 if one differs. */
final class Check {
    static final int BAD = -2, STATE = -3, FULL = -4, NONE = -1;
    private static final int MOST_SHOWN = 40;
    private static final int MOST_STATES = 10;

    private int asked = 0;
    private int wrong = 0;
    private int quoted = 0;
    private String part = "";

    void promise(String name) {
        part = name;
    }

    /** The answers that follow have to hold to this sentence, which the document says there; 0 is before promise 1. */
    void sentence(int promise, String words) {
        part = (promise == 0 ? "description" : "promise " + promise) + ", \"" + words + "\"";
        quoted |= 1 << promise;
        due("the document says so", Doc.says(promise, words) ? 1 : 0, 1);
    }

    void everyPromiseWasQuoted() {
        for (int promise = 1; promise <= Doc.PROMISES; promise++) {
            due("a sentence of promise " + promise, quoted >> promise & 1, 1);
        }
    }

    void due(String call, long got, long want) {
        asked++;
        if (got != want) {
            wrong++;
            if (wrong <= MOST_SHOWN) {
                System.out.println(part + ": " + call + " answered " + got + ", due is " + want);
            }
        }
    }

    /** The call has to answer with this error and to leave the digest and the history as they were. */
    void error(SightRidge x, String call, LongSupplier asking, long want) {
        long digest = x.digest();
        due(call, asking.getAsLong(), want);
        due("digest() after " + call, x.digest(), digest);
    }

    /** The same as error(), back to the oldest state: one of two like objects is asked, then both have to be alike. */
    void refused(Supplier<SightRidge> making, String call, ToLongFunction<SightRidge> asking, long want) {
        SightRidge x = making.get();
        SightRidge twin = making.get();
        due(call, asking.applyAsLong(x), want);
        due("digest() after " + call, x.digest(), twin.digest());
        due("finding(-1) after " + call, x.finding(NONE), twin.finding(NONE));
        due("fault() after " + call, x.fault(), twin.fault());
        for (int i = 0; i <= MOST_STATES; i++) {
            due("undo() " + i + " after " + call, x.undo(), twin.undo());
            due("digest() " + i + " after " + call, x.digest(), twin.digest());
        }
    }

    void grounds(SightRidge x, String when, int... want) {
        property(x, when, 0, want);
    }

    void masts(SightRidge x, String when, int... want) {
        property(x, when, 1, want);
    }

    private void property(SightRidge x, String when, int what, int... want) {
        due(when + ": count(0)", x.count(0), want.length);
        for (int s = 0; s < want.length; s++) {
            due(when + ": station(" + s + ", " + what + ")", x.station(s, what), want[s]);
        }
    }

    void finding(SightRidge x, String when, int... want) {
        due(when + ": finding(-1)", x.finding(NONE), want.length);
        for (int i = 0; i < want.length; i++) {
            due(when + ": finding(" + i + ")", x.finding(i), want[i]);
        }
        due(when + ": finding(" + want.length + ")", x.finding(want.length), NONE);
    }

    void finish() {
        System.out.println(asked - wrong + " of " + asked + " answers are as due");
        if (wrong != 0 || asked == 0) {
            System.exit(1);
        }
    }

    static void typeAll(SightRidge x, String text) {
        for (int i = 0; i < text.length(); i++) {
            x.type(text.charAt(i));
        }
    }

    static SightRidge withProfile(String text) {
        SightRidge x = new SightRidge();
        typeAll(x, text);
        if (x.load() < 0) {
            throw new IllegalStateException("a test's own profile has a fault: " + text);
        }
        return x;
    }
}
