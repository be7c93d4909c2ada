import java.util.Random;

/** Runs of 512 calls by draws with a told seed, each answer held against that of PlainOpera. */
public final class RandomRunsTest {
    private static final int RUNS = 500;
    // an object is used for so many calls at most
    private static final int CALLS = 512;
    private static final int[] EXTREMES = {
        Integer.MIN_VALUE, Integer.MIN_VALUE + 1, Due.BEYOND, -1, -2, 128, 129, 9999, 65536, Integer.MAX_VALUE,
    };

    // what each argument is mostly: p phase, v tide, s speed, k km, c cell, b boat, l listener, w what, P part, K kind,
    // W word, B bytes, u use, # any small, n ahead, N beats, C three cells, L three lags, i place, Z any, a act,
    // S sheet, 8 bits, x number for a sheet, T told number, t told
    private static final String[] FACE = {
        "tide:pv", "speed:s", "boat:kc", "ofBoat:bw", "change:b", "become:bk", "as:bK", "lag:bc", "listener:c",
        "ofListener:lw", "row:lc", "feed:WB", "text:u", "law:u###", "beats:N", "loose:N", "then:nb", "thenListener:nlw",
        "score:cn", "place:n", "fromHere:n", "mooring:bcn", "sooner:bcn", "fitSpeed:cn", "fromWhere:CL", "whereFrom:CLi",
        "strokes:bn", "seed:Z", "voice:ba#", "trace:i", "sheet:S8i", "put:Six", "move:SiSii", "part:Sb", "judge:Sb",
        "image:", "restore:", "tell:T", "check:l", "count:w", "told:t",
    };

    private final Random draws;
    private final LagoonOpera x = new LagoonOpera();
    private final PlainOpera plain = new PlainOpera();
    private final int run;
    private int calls = 0;
    private final StringBuilder log = new StringBuilder();
    private static boolean[] answered = new boolean[FACE.length];
    private static int errors = 0;

    private RandomRunsTest(int run) {
        this.run = run;
        this.draws = new Random(run);
    }

    public static void main(String[] args) {
        int runs = args.length > 0 ? Integer.parseInt(args[0]) : RUNS;
        int wrong = 0;
        for (int run = 0; run < runs && wrong < 5; run++) {
            if (!new RandomRunsTest(run).asDue()) wrong++;
        }
        for (int act = 0; act < FACE.length; act++) {
            if (!FACE[act].startsWith(Calls.name(act) + ":")) wrong++;
            if (!answered[act]) System.out.println(FACE[act] + " never answered without an ERROR");
            if (!answered[act]) wrong++;
        }
        System.out.println(runs + " runs, " + errors + " ERRORS in them, " + wrong + " not as due");
        if (wrong != 0) System.exit(1);
    }

    private boolean asDue() {
        if (draws.nextInt(8) != 0) {
            int boats = 1 + draws.nextInt(9);
            for (int i = 0; i < boats; i++) {
                if (!same(2, new long[] {drawn('k'), drawn('c')})) return false;
                if (!same(4, new long[] {i, 3, drawn('P')})) return false;
            }
            for (int i = 0; i < 3; i++) if (!same(8, new long[] {drawn('c')})) return false;
            for (int i = 0; i < 4; i++) if (!same(0, new long[] {i, drawn('v')})) return false;
        }
        boolean late = draws.nextInt(40) == 0;
        for (int i = 0; late && i < 78; i++) if (!same(14, new long[] {128})) return false;
        while (calls < CALLS) {
            int kind = draws.nextInt(12);
            boolean so = kind == 0 ? feedText() : kind == 1 ? tellInTime() : kind == 2 ? layTruth() : oneCall(draws.nextInt(41));
            if (!so) return false;
        }
        return true;
    }

    private boolean oneCall(int act) {
        String args = FACE[act].substring(FACE[act].indexOf(':') + 1);
        if (act == 4) {
            int what = draws.nextInt(8) == 0 ? small(6) - 1 : 2 + draws.nextInt(2);
            return same(4, new long[] {argument('b'), what, argument(what == 2 ? 'c' : 'P')});
        }
        long[] a = new long[args.length()];
        for (int i = 0; i < a.length; i++) a[i] = argument(args.charAt(i));
        return same(act, a);
    }

    private long argument(char kind) {
        if (draws.nextInt(60) == 0) return EXTREMES[draws.nextInt(EXTREMES.length)];
        return drawn(kind);
    }

    private int small(int n) {
        return draws.nextInt(n);
    }

    private long drawn(char kind) {
        switch (kind) {
            case 'p': return small(20) == 0 ? 4 : small(4);
            case 'v': return small(20) == 0 ? 5 : small(5);
            case 's': return small(11);
            case 'k': return small(30) == 0 ? 70 : small(70);
            case 'c': return small(40) == 0 ? 64 : small(3) == 0 ? 18 + small(3) : small(64);
            case 'b': return small(4) == 0 ? small(11) - 1 : small(3);
            case 'l': return small(4) == 0 ? small(8) - 1 : small(3);
            case 'w': return small(5) == 0 ? small(13) - 1 : small(5);
            case 'P': return small(3) == 0 ? -1 : draws.nextInt() | (small(2) == 0 ? draws.nextInt() : 0);
            case 'K': return small(8);
            case 'W': return small(2) == 0 ? draws.nextLong() : 0x2b32642a73746473L >>> small(8);
            case 'B': return small(10);
            case 'u': return small(15) == 0 ? 2 : small(2);
            case '#': return small(5) == 0 ? draws.nextInt() : small(24) - 8;
            case 'n': return small(4) == 0 ? small(131) - 1 : small(20);
            case 'N': return small(8) == 0 ? small(131) - 1 : 1 + small(9);
            case 'C': return small(30) == 0 ? 262144 : small(3) == 0 ? 65 * 64 * 9 + 9 : small(262144);
            case 'L': return small(30) == 0 ? 1000000 : small(4) * 10000 + small(4) * 100 + small(4);
            case 'i': return small(10) == 0 ? small(43) - 1 : small(6);
            case 'a': return small(10) == 0 ? 4 : small(4);
            case 'S': return small(20) == 0 ? 4 : small(3);
            case '8': return new int[] {0, 8, 8, 16, 32, 7, 64}[small(7)];
            case 'x': return small(4) == 0 ? draws.nextInt() : small(34);
            case 'T': return small(9);
            case 't': return small(7);
            default: return draws.nextInt();
        }
    }

    private boolean feedText() {
        int use = small(2);
        StringBuilder text = new StringBuilder();
        write(text, 0, use == 0 ? "dst" : "nit");
        if (small(3) == 0 && text.length() > 0) {
            char other = "|&<=>+-*/%!()0123456789dstni ".charAt(small(29));
            int at = small(text.length());
            if (small(2) == 0) text.setCharAt(at, other);
            else text.insert(at, other);
        }
        for (int from = 0; from < text.length(); from += 8) {
            long word = draws.nextLong();
            int n = Math.min(8, text.length() - from);
            for (int i = n - 1; i >= 0; i--) word = (word << 8) | text.charAt(from + i);
            if (!same(11, new long[] {word, n})) return false;
        }
        return same(12, new long[] {use}) && same(13, new long[] {use, drawn('#'), drawn('#'), drawn('#')});
    }

    private void write(StringBuilder text, int depth, String names) {
        int parts = 1 + small(depth < 3 ? 4 : 1);
        for (int i = 0; i < parts; i++) {
            if (i > 0) text.append("|&<=>+-*/%+-*/%".charAt(small(15)));
            int kind = small(9);
            if (kind < 3 || text.length() > 36) text.append(names.charAt(small(3)));
            else if (kind < 6) text.append(small(5) == 0 ? small(10000) : small(9));
            else if (kind == 6) text.append('!').append(names.charAt(small(3)));
            else {
                if (kind == 7) text.append('!');
                text.append('(');
                write(text, depth + 1, names);
                text.append(')');
            }
        }
    }

    /** Numbers that wait as IN TIME will be, so that check() goes on behind the first. */
    private boolean tellInTime() {
        int listener = small(3);
        if (!same(38, new long[] {listener})) return false;
        int n = plain.call(39, new long[] {2}) > listener ? small(21) : 0;
        for (int k = 1; k <= n; k++) {
            long v = plain.call(17, new long[] {k, listener, 1});
            if (!same(37, new long[] {small(40) == 0 ? v + 1 : v})) return false;
        }
        return same(38, new long[] {listener});
    }

    /** Numbers of a SHEET as the CELLS of a BOAT will be, so that judge() goes on behind the first. */
    private boolean layTruth() {
        int sheet = small(4);
        int boat = small(3);
        int n = small(41);
        if (!same(30, new long[] {sheet, 8, n})) return false;
        boolean afloat = plain.call(39, new long[] {1}) > boat;
        for (int k = 0; k < n && afloat; k++) {
            long v = plain.call(16, new long[] {k, boat});
            if (!same(31, new long[] {sheet, k, small(60) == 0 ? v + 1 : v})) return false;
        }
        return same(34, new long[] {sheet, boat}) && (small(3) != 0 || same(33, new long[] {sheet, boat}));
    }

    /** Whether both answer the same, or no call is left. */
    private boolean same(int act, long[] a) {
        if (calls == CALLS) return true;
        calls++;
        long due = plain.call(act, a);
        long got = Calls.ask(x, act, a);
        log.append(FACE[act], 0, FACE[act].indexOf(':')).append(java.util.Arrays.toString(a)).append(" = ").append(got).append('\n');
        if (due < -1000000000 && due >= -1000000005) errors++;
        else answered[act] = true;
        if (due == got) return true;
        System.out.println("run " + run + ", due is " + due + " behind:\n" + log);
        return false;
    }
}
