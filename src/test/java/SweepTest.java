/** Promises 12 and 13: every short text of a few letters, also behind beginnings near an edge, compared with the Model. */
public final class SweepTest {
    private static final String LETTERS = "0,12*m x";
    private static final String[] BEGINNINGS = {"", "1*", "1m", "1,", "1*1", "1*2", "1m20", "1*19", "1*18,", "1*19,",
        "1*19,1*", "1*20", "1*20,", "1*10,2*", "1*9m2,1*", "12", "1 , 2 * 3 m 1"};
    private static final int LONGEST = 5;
    private static final int LONGEST_BEHIND = 3;

    private static final Check check = new Check();

    public static void main(String[] args) {
        check.promise("promises 12 and 13");
        for (String beginning : BEGINNINGS) {
            sweep(beginning, beginning.isEmpty() ? LONGEST : LONGEST_BEHIND);
        }
        check.finish();
    }

    private static void sweep(String text, int more) {
        compare(text);
        for (int i = 0; i < LETTERS.length() && more > 0; i++) {
            sweep(text + LETTERS.charAt(i), more - 1);
        }
    }

    private static void compare(String text) {
        SightRidge real = new SightRidge();
        Model model = new Model();
        for (int i = 0; i < text.length(); i++) {
            real.type(text.charAt(i));
            model.type(text.charAt(i));
        }
        check.due("fault() of \"" + text + "\"", real.fault(), model.fault());
        check.due("load() of \"" + text + "\"", real.load(), model.load());
        check.due("digest() after \"" + text + "\"", real.digest(), model.digest());
    }
}
