/** What the tests share: what is due, and short ways to ask for it. */
final class Due {
    static final int LOW = -1000000000;
    static final int BEYOND = LOW - 1;
    static final int NONE = LOW - 2;
    static final int STATE = LOW - 3;
    static final int FULL = LOW - 4;
    static final int KIND = LOW - 5;
    static final int ALL = -1;

    private static int asked = 0;
    private static int wrong = 0;

    private Due() {
    }

    static void is(String call, long got, long want) {
        asked++;
        if (got == want) return;
        wrong++;
        System.out.println(call + " answered " + got + ", due is " + want);
    }

    static void holds(String what, boolean so) {
        is(what, so ? 1 : 0, 1);
    }

    static void end() {
        System.out.println(asked + " answers, " + wrong + " not as due");
        if (wrong != 0) System.exit(1);
    }

    /** Feeds the signs of a text, eight at a time. */
    static int feed(LagoonOpera x, String text) {
        int fed = x.count(7);
        for (int from = 0; from < text.length(); from += 8) {
            int n = Math.min(8, text.length() - from);
            long word = 0;
            for (int i = 0; i < n; i++) word |= (text.charAt(from + i) & 255L) << (8 * i);
            fed = x.feed(word, n);
        }
        return fed;
    }

    static int text(LagoonOpera x, int use, String text) {
        feed(x, text);
        return x.text(use);
    }

    static int boat(LagoonOpera x, int km, int cell, int part) {
        int boat = x.boat(km, cell);
        x.change(boat, 3, part);
        return boat;
    }

    /** A TIDE in all four phases. */
    static void tides(LagoonOpera x, int v) {
        for (int phase = 0; phase < 4; phase++) x.tide(phase, v);
    }

    static int cell(int row, int column) {
        return 8 * row + column;
    }

    static int bit(int beat) {
        return 1 << beat;
    }
}
