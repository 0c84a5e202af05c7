/** All promises: long runs of calls, each answer compared with that of the Model. */
public final class ModelTest {
    private static final int RUNS = 420;
    // What an object answers after its 512th call is free.
    private static final int CALLS = 512;
    private static final String LETTERS = "0123456789,*m ,*m 12,x";
    private static final int[] ODD = {-2, -1, 20, 21, 31, 32, 200, 201, 999, 1000, Integer.MIN_VALUE,
        Integer.MAX_VALUE};

    private static final Check check = new Check();
    private static long seed = 20261119;

    private SightRidge real = new SightRidge();
    private Model model = new Model();
    private final int highest;
    private final int oddOneIn;
    private int left = CALLS;

    private ModelTest(int highest, int oddOneIn) {
        this.highest = highest;
        this.oddOneIn = oddOneIn;
    }

    public static void main(String[] args) {
        int[] heights = {3, 12, 40, 150, 999};
        for (int run = 0; run < RUNS; run++) {
            check.promise("run " + run);
            new ModelTest(heights[run % heights.length], run % 3 == 0 ? 6 : 40).run();
        }
        check.finish();
    }

    private static int below(int bound) {
        seed = seed * 6364136223846793005L + 1442695040888963407L;
        return (int) ((seed >>> 33) % bound);
    }

    /** A number from least to most, now and then one at or beyond an edge. */
    private int number(int least, int most) {
        int kind = below(oddOneIn);
        if (kind == 0) {
            return ODD[below(ODD.length)];
        }
        if (kind == 1) {
            return new int[] {least - 1, least, most, most + 1}[below(4)];
        }
        return least + below(Math.max(1, most - least + 1));
    }

    private int station() {
        return number(0, model.count(0) - 1);
    }

    private int set() {
        return below(oddOneIn) == 0 ? number(0, 1) << below(32) : below(1 << model.count(0));
    }

    private int ground() {
        return below(oddOneIn) == 0 ? number(0, 999) : below(highest + 1);
    }

    private int height() {
        return below(3) == 0 ? number(0, 200) : below(Math.min(highest + 2, 201));
    }

    private void due(String call, long got, long want) {
        left--;
        check.due("with " + left + " calls left, " + call, got, want);
    }

    private void run() {
        if (below(4) > 0) {
            typeAll(randomProfile());
        }
        while (left > 0) {
            if (below(4) == 0) {
                change();
            } else {
                ask();
            }
            if (left > 0 && below(3) == 0) {
                due("digest()", real.digest(), model.digest());
            }
        }
    }

    private void change() {
        int kind = below(17);
        if (kind == 0 && below(3) == 0) {
            int a = number(2, 20);
            int b = ground();
            due("reset(" + a + ", " + b + ")", real.reset(a, b), model.reset(a, b));
        } else if (kind <= 3) {
            int a = station();
            int b = ground();
            due("setGround(" + a + ", " + b + ")", real.setGround(a, b), model.setGround(a, b));
        } else if (kind <= 4) {
            int a = station();
            int b = station();
            due("slope(" + a + ", " + b + ")", real.slope(a, b), model.slope(a, b));
        } else if (kind <= 8) {
            int a = station();
            int b = height();
            due("mast(" + a + ", " + b + ")", real.mast(a, b), model.mast(a, b));
        } else if (kind == 9) {
            due("reverse()", real.reverse(), model.reverse());
        } else if (kind <= 11) {
            int a = below(2) == 0 ? number(1, 19) : number(1, 4);
            due("setRange(" + a + ")", real.setRange(a), model.setRange(a));
        } else if (kind == 12) {
            int a = below(2) == 0 ? number(0, 9) : below(2);
            due("setBulge(" + a + ")", real.setBulge(a), model.setBulge(a));
        } else if (kind <= 14) {
            due("undo()", real.undo(), model.undo());
        } else {
            changeText();
        }
    }

    private void changeText() {
        int kind = below(9);
        if (kind == 0) {
            due("clearText()", real.clearText(), model.clearText());
        } else if (kind == 1) {
            int a = number(0, 127);
            due("type(" + a + ")", real.type(a), model.type(a));
        } else if (kind <= 3) {
            due("load()", real.load(), model.load());
        } else if (left > 150) {
            typeAll(kind <= 5 ? randomLetters() : randomProfile());
        }
    }

    private void typeAll(String letters) {
        if (below(3) > 0) {
            due("clearText()", real.clearText(), model.clearText());
        }
        for (int i = 0; i < letters.length() && left > 2; i++) {
            int letter = letters.charAt(i);
            due("type(" + letter + ")", real.type(letter), model.type(letter));
            if (left > 2 && below(6) == 0) {
                due("fault()", real.fault(), model.fault());
            }
        }
        due("fault()", real.fault(), model.fault());
        due("load()", real.load(), model.load());
    }

    private String randomLetters() {
        StringBuilder letters = new StringBuilder();
        int length = below(30);
        for (int i = 0; i < length; i++) {
            letters.append(LETTERS.charAt(below(LETTERS.length())));
        }
        return letters.toString();
    }

    private String randomProfile() {
        StringBuilder letters = new StringBuilder();
        int parts = 2 + below(18);
        int most = 1 + below(3);
        for (int part = 0; part < parts; part++) {
            letters.append(part == 0 ? "" : ",").append(blank()).append(below(highest + 1)).append(blank());
            if (below(3) == 0) {
                letters.append('*').append(blank()).append(below(30) == 0 ? below(25) : 1 + below(most));
            }
            if (below(2) == 0) {
                letters.append(blank()).append('m').append(below(30) == 0 ? below(300) : 1 + below(9));
            }
        }
        if (below(4) == 0) {
            letters.setCharAt(below(letters.length()), LETTERS.charAt(below(LETTERS.length())));
        }
        return letters.toString();
    }

    private static String blank() {
        return below(12) == 0 ? " " : "";
    }

    private void ask() {
        int a = station();
        int b = station();
        int what = number(0, 2);
        int kind = below(16);
        String pair = "(" + a + ", " + b;
        if (kind == 0) {
            int of = number(0, 5);
            due("station(" + a + ", " + of + ")", real.station(a, of), model.station(a, of));
        } else if (kind == 1) {
            due("sees" + pair + ")", real.sees(a, b), model.sees(a, b));
        } else if (kind == 2) {
            due("obstacle" + pair + ", " + what + ")", real.obstacle(a, b, what), model.obstacle(a, b, what));
        } else if (kind == 3) {
            due("neededMast" + pair + ")", real.neededMast(a, b), model.neededMast(a, b));
        } else if (kind == 4) {
            due("growth" + pair + ", " + what + ")", real.growth(a, b, what), model.growth(a, b, what));
        } else if (kind == 5) {
            int i = number(0, 3);
            due("shadow(" + a + ", " + i + ", " + what + ")", real.shadow(a, i, what), model.shadow(a, i, what));
        } else if (kind == 6) {
            due("farthest()", real.farthest(), model.farthest());
        } else if (kind <= 8) {
            due("chain" + pair + ")", real.chain(a, b), model.chain(a, b));
        } else if (kind <= 10) {
            int height = height();
            due("newMasts" + pair + ", " + height + ")", real.newMasts(a, b, height), model.newMasts(a, b, height));
        } else if (kind == 11) {
            due("vital" + pair + ")", real.vital(a, b), model.vital(a, b));
        } else if (kind == 12) {
            int i = number(-1, 5);
            due("finding(" + i + ")", real.finding(i), model.finding(i));
        } else {
            askRarely(kind);
        }
    }

    private void askRarely(int kind) {
        if (kind == 13) {
            due("groups()", real.groups(), model.groups());
        } else if (kind == 14) {
            int set = set();
            due("watched(" + set + ")", real.watched(set), model.watched(set));
        } else if (model.count(0) <= 12 || below(12) == 0) {
            int height = height();
            due("watch(" + height + ")", real.watch(height), model.watch(height));
        } else {
            int of = number(0, 8);
            due("count(" + of + ")", real.count(of), model.count(of));
        }
    }
}
