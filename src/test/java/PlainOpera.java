import java.util.ArrayList;
import java.util.List;

/**
 * The document once more, in the plainest way and with nothing remembered or shared: every question about BEATS
 * to come copies all and lets them go by. RandomRunsTest asks the class and this the same.
 */
final class PlainOpera {
    private static final int LOW = -1000000000;

    private static final class Refused extends RuntimeException {
        private final int k;

        Refused(int k) {
            super(null, null, false, false);
            this.k = k;
        }
    }

    private static final class Boat {
        private int kind;
        private int m;
        private int cell;
        private int part;

        boolean sings(int beat) {
            return (part & (1 << (beat % 32))) != 0;
        }
    }

    private static final class Listener {
        private int cell;
        private int inTime = 0;
        private int coins = 50;
    }

    /** All that an IMAGE keeps. */
    private static final class All {
        private int beat = 0;
        private int purse = 0;
        private int speed = 2;
        private int z = 1;
        private int[] tide = new int[4];
        private String[] texts = new String[2];
        private String tape = "";
        private List<Integer> waiting = new ArrayList<>();
        private List<Boat> boats = new ArrayList<>();
        private List<Listener> listeners = new ArrayList<>();

        All copy() {
            All all = new All();
            all.beat = beat;
            all.purse = purse;
            all.speed = speed;
            all.z = z;
            all.tide = tide.clone();
            all.texts = texts.clone();
            all.tape = tape;
            all.waiting = new ArrayList<>(waiting);
            for (Boat b : boats) {
                Boat c = new Boat();
                c.kind = b.kind;
                c.m = b.m;
                c.cell = b.cell;
                c.part = b.part;
                all.boats.add(c);
            }
            for (Listener l : listeners) {
                Listener c = new Listener();
                c.cell = l.cell;
                c.inTime = l.inTime;
                c.coins = l.coins;
                all.listeners.add(c);
            }
            return all;
        }

        int lags(int d, int s) {
            return use(0, d, s, beat % 32);
        }

        int use(int use, int a, int b, int c) {
            long v;
            if (texts[use] != null) v = PlainText.worth(texts[use], use == 0 ? "dst" : "nit", new int[] {a, b, c});
            else if (use == 1) v = b;
            else v = b == 0 ? 0 : (int) ((long) a / b);
            return (int) Math.max(0, Math.min(99, v));
        }

        int lag(Boat b, int cell) {
            int lag = lags(far(b.cell, cell), speed);
            if (b.kind == 5) lag += b.m / 3;
            if (b.kind == 4) lag += b.m;
            return lag;
        }

        boolean together(int cell, List<Boat> heard) {
            if (heard.size() < 2) return false;
            for (Boat b : heard) {
                if (lag(b, cell) != lag(heard.get(0), cell)) return false;
            }
            return true;
        }

        List<Boat> singing() {
            List<Boat> singing = new ArrayList<>();
            for (Boat b : boats) if (b.sings(beat)) singing.add(b);
            return singing;
        }

        void goBy(boolean loose) {
            List<Boat> heard = new ArrayList<>();
            for (Boat b : singing()) {
                if (loose) z = z * 1103515245 + 12345;
                if (!loose || (z >>> 8) % 6 != 0) heard.add(b);
            }
            for (Listener l : listeners) {
                boolean together = together(l.cell, heard);
                if (together && l.inTime < 9999) l.inTime++;
                int pays = use(1, heard.size(), together ? 1 : 0, beat % 32);
                while (pays > 0 && l.coins > 0) {
                    pays--;
                    l.coins--;
                    if (purse < 999999) purse++;
                }
            }
            for (Boat b : boats) move(b);
            beat++;
        }

        private void move(Boat b) {
            int t = beat % 32;
            if (b.kind == 2 || b.kind == 5 && t >= b.m) go(b, tide[t / 8]);
            boolean towed = b.kind == 3 || b.kind == 6 && b.sings(beat);
            if ((b.kind == 0 || towed) && t % 2 == 1) go(b, tide[t / 8]);
            if (towed && t % 8 == 7) go(b, 1 + b.m % 4);
        }

        private static void go(Boat b, int way) {
            int row = b.cell / 8 + (way == 1 ? -1 : way == 3 ? 1 : 0);
            int column = b.cell % 8 + (way == 4 ? -1 : way == 2 ? 1 : 0);
            if (row >= 0 && row < 8 && column >= 0 && column < 8) b.cell = 8 * row + column;
        }

        All ahead(int n) {
            All all = copy();
            for (int i = 0; i < n; i++) all.goBy(false);
            return all;
        }

        int score(int cell, int n) {
            int score = 0;
            All all = copy();
            all.listeners.clear();
            for (int i = 0; i < n; i++) {
                if (all.together(cell, all.singing())) score++;
                all.goBy(false);
            }
            return score;
        }
    }

    private All now = new All();
    private All kept = null;
    private int images = 0;
    private final long[][] sheets = new long[4][];
    private final int[] bits = new int[4];
    private final List<Integer> trace = new ArrayList<>();
    private final int[] told = new int[6];

    private static int far(int a, int b) {
        return Math.max(Math.abs(a / 8 - b / 8), Math.abs(a % 8 - b % 8));
    }

    private static void ask(boolean so, int k) {
        if (!so) throw new Refused(k);
    }

    private static void range(int v, int least, int most) {
        ask(v >= least && v <= most, 1);
    }

    private Boat boatAt(int boat) {
        range(boat, 0, now.boats.size() - 1);
        return now.boats.get(boat);
    }

    private Listener listenerAt(int listener) {
        range(listener, 0, now.listeners.size() - 1);
        return now.listeners.get(listener);
    }

    /** The call of the act by its place in the public face, with its arguments. */
    long call(int act, long[] a) {
        try {
            int[] i = new int[a.length];
            for (int j = 0; j < a.length; j++) i[j] = (int) a[j];
            if (act < 11) return boatsAndListeners(act, i);
            if (act < 18) return textsAndBeats(act, a[0], i);
            if (act < 27) return inTime(act, i);
            return rest(act, i);
        } catch (Refused refused) {
            told[refused.k]++;
            return LOW - refused.k;
        }
    }

    private long boatsAndListeners(int act, int[] a) {
        int was;
        switch (act) {
            case 0:
                range(a[0], 0, 3);
                range(a[1], 0, 4);
                was = now.tide[a[0]];
                now.tide[a[0]] = a[1];
                return was;
            case 1:
                range(a[0], 1, 9);
                was = now.speed;
                now.speed = a[0];
                return was;
            case 2:
                range(a[0], 0, 69);
                range(a[1], 0, 63);
                ask(now.boats.size() < 9, 4);
                Boat made = new Boat();
                made.kind = a[0] / 10;
                made.m = a[0] % 10;
                made.cell = a[1];
                now.boats.add(made);
                return now.boats.size() - 1;
            case 3: return ofBoat(boatAt(a[0]), a[1]);
            case 4: return change(boatAt(a[0]), a[1], a[2]);
            case 5:
                range(a[1], 0, 69);
                Boat other = boatAt(a[0]);
                was = other.kind;
                other.kind = a[1] / 10;
                other.m = a[1] % 10;
                return was;
            case 6:
                range(a[1], 0, 6);
                ask(isUnder(boatAt(a[0]).kind, a[1]), 5);
                return boatAt(a[0]).m;
            case 7:
                range(a[1], 0, 63);
                return now.lag(boatAt(a[0]), a[1]);
            case 8:
                range(a[0], 0, 63);
                ask(now.listeners.size() < 6, 4);
                Listener seated = new Listener();
                seated.cell = a[0];
                now.listeners.add(seated);
                return now.listeners.size() - 1;
            case 9: return ofListener(now, a[0], a[1]);
            default:
                range(a[1], 0, 63);
                was = listenerAt(a[0]).cell;
                listenerAt(a[0]).cell = a[1];
                return was;
        }
    }

    private long ofBoat(Boat b, int what) {
        range(what, 0, 4);
        return new int[] {b.kind, b.m, b.cell, b.part, b.sings(now.beat) ? 1 : 0}[what];
    }

    private long change(Boat b, int what, int v) {
        range(what, 2, 3);
        int was = what == 2 ? b.cell : b.part;
        if (what == 2) {
            range(v, 0, 63);
            b.cell = v;
        } else {
            b.part = v;
        }
        return was;
    }

    private static boolean isUnder(int kind, int other) {
        String[] under = {"0123456", "14", "25", "36", "4", "5", "6"};
        return under[other].indexOf((char) ('0' + kind)) >= 0;
    }

    private long ofListener(All all, int listener, int what) {
        listenerAt(listener);
        range(what, 0, 3);
        Listener l = all.listeners.get(listener);
        return new int[] {l.cell, l.inTime, l.coins, all.together(l.cell, all.singing()) ? 1 : 0}[what];
    }

    private long textsAndBeats(int act, long word, int[] a) {
        switch (act) {
            case 11:
                range(a[1], 1, 8);
                ask(now.tape.length() + a[1] <= 50, 4);
                for (int i = 0; i < a[1]; i++) now.tape += (char) ((word >> (8 * i)) & 255);
                return now.tape.length();
            case 12:
                range(a[0], 0, 1);
                String tape = now.tape;
                now.tape = "";
                int fault = PlainText.fault(tape, a[0] == 0 ? "dst" : "nit");
                if (fault >= 0) return -10 - fault;
                now.texts[a[0]] = tape;
                return 1;
            case 13:
                range(a[0], 0, 1);
                return now.use(a[0], a[1], a[2], a[3]);
            case 14:
            case 15:
                range(a[0], 1, 128);
                ask(now.beat + a[0] <= 9999, 3);
                for (int i = 0; i < a[0]; i++) now.goBy(act == 15);
                return now.purse;
            case 16:
                range(a[0], 0, 128);
                boatAt(a[1]);
                return now.ahead(a[0]).boats.get(a[1]).cell;
            default:
                range(a[0], 0, 128);
                listenerAt(a[1]);
                return ofListener(now.ahead(a[0]), a[1], a[2]);
        }
    }

    private long inTime(int act, int[] a) {
        switch (act) {
            case 18:
                range(a[0], 0, 63);
                range(a[1], 0, 128);
                return now.score(a[0], a[1]);
            case 19:
            case 20:
                range(a[0], 0, 128);
                return act == 19 ? Long.numberOfTrailingZeros(fromHere(a[0])) : fromHere(a[0]);
            case 21:
            case 22:
                boatAt(a[0]);
                range(a[1], 0, 63);
                range(a[2], 0, 128);
                return best(act, a[0], a[1], a[2], act == 21 ? 64 : 32);
            case 23:
                range(a[0], 0, 63);
                range(a[1], 0, 128);
                return 1 + best(act, 0, a[0], a[1], 9);
            case 24:
                return origins(a[0], a[1]).size();
            case 25:
                List<Integer> origins = origins(a[0], a[1]);
                ask(a[2] >= 0, 1);
                ask(a[2] < origins.size(), 2);
                return origins.get(a[2]);
            default:
                boatAt(a[0]);
                range(a[1], 0, 128);
                int strokes = 0;
                for (int k = 0; k < a[1]; k++) {
                    if (now.ahead(k).boats.get(a[0]).cell != now.ahead(k + 1).boats.get(a[0]).cell) strokes++;
                }
                return strokes;
        }
    }

    private long fromHere(int n) {
        int[] scores = new int[64];
        int most = 0;
        for (int cell = 0; cell < 64; cell++) {
            scores[cell] = now.score(cell, n);
            most = Math.max(most, scores[cell]);
        }
        long cells = 0;
        for (int cell = 63; cell >= 0; cell--) cells = 2 * cells + (scores[cell] == most ? 1 : 0);
        return cells;
    }

    private int best(int act, int boat, int cell, int n, int tries) {
        int best = -1;
        int most = -1;
        for (int v = 0; v < tries; v++) {
            All all = now.copy();
            if (act == 21) all.boats.get(boat).cell = v;
            if (act == 22) {
                Boat b = all.boats.get(boat);
                int part = 0;
                for (int t = 0; t < 32; t++) if (b.sings(t)) part |= 1 << ((t - v + 32) % 32);
                b.part = part;
            }
            if (act == 23) all.speed = 1 + v;
            int score = all.score(cell, n);
            if (score > most) {
                most = score;
                best = v;
            }
        }
        return best;
    }

    private List<Integer> origins(int cells, int lags) {
        range(cells, 0, 64 * 64 * 64 - 1);
        range(lags, 0, 999999);
        List<Integer> origins = new ArrayList<>();
        for (int cell = 0; cell < 64; cell++) {
            int p = now.lags(far(cell, cells / 4096), now.speed);
            int q = now.lags(far(cell, cells / 64 % 64), now.speed);
            int r = now.lags(far(cell, cells % 64), now.speed);
            if (10000 * p + 100 * q + r == lags) origins.add(cell);
        }
        return origins;
    }

    private long rest(int act, int[] a) {
        switch (act) {
            case 27:
                int was = now.z;
                now.z = a[0];
                return was;
            case 28:
                boatAt(a[0]);
                range(a[1], 0, 3);
                trace.clear();
                PlainVoice voice = PlainVoice.of(boatAt(a[0]).kind, a[0], boatAt(a[0]).m, trace);
                return a[1] == 0 ? voice.sings(a[2]) : a[1] == 1 ? voice.drifts(a[2])
                    : a[1] == 2 ? voice.waits(a[2]) : voice.tells(a[2]);
            case 29:
                ask(a[0] >= 0 && a[0] < trace.size() && a[0] < 40, 2);
                return trace.get(a[0]);
            case 30: return sheet(a[0], a[1], a[2]);
            case 31:
                missing(a[0]);
                range(a[1], 0, sheets[a[0]].length - 1);
                sheets[a[0]][a[1]] = a[2] & ((1L << bits[a[0]]) - 1);
                return 1;
            case 32: return move(a);
            case 33:
                range(a[0], 0, 3);
                Boat boat = boatAt(a[1]);
                missing(a[0]);
                int part = 0;
                for (int i = 0; i < sheets[a[0]].length && sheets[a[0]][i] < 32; i++) part |= 1 << (int) sheets[a[0]][i];
                boat.part = part;
                return Integer.bitCount(part);
            case 34:
                range(a[0], 0, 3);
                boatAt(a[1]);
                missing(a[0]);
                int so = 0;
                while (so < sheets[a[0]].length && sheets[a[0]][so] == now.ahead(so).boats.get(a[1]).cell) so++;
                return so;
            default: return images(act, a);
        }
    }

    private void missing(int sheet) {
        range(sheet, 0, 3);
        ask(sheets[sheet] != null, 2);
    }

    private long sheet(int sheet, int newBits, int n) {
        range(sheet, 0, 3);
        ask(newBits == 0 || newBits == 8 || newBits == 16 || newBits == 32, 1);
        if (newBits != 0) {
            ask(n >= 0, 3);
            range(n, 0, 40);
        }
        sheets[sheet] = newBits == 0 ? null : new long[n];
        bits[sheet] = newBits;
        return 1;
    }

    private long move(int[] a) {
        range(a[0], 0, 3);
        range(a[2], 0, 3);
        missing(a[0]);
        missing(a[2]);
        ask(bits[a[0]] == bits[a[2]], 5);
        ask(a[1] >= 0 && a[3] >= 0 && a[4] >= 0, 1);
        ask((long) a[1] + a[4] <= sheets[a[0]].length, 1);
        ask((long) a[3] + a[4] <= sheets[a[2]].length, 1);
        long[] were = sheets[a[0]].clone();
        for (int i = 0; i < a[4]; i++) sheets[a[2]][a[3] + i] = were[a[1] + i];
        return a[4];
    }

    private long images(int act, int[] a) {
        switch (act) {
            case 35:
                kept = now.copy();
                return ++images;
            case 36:
                ask(kept != null, 2);
                now = kept.copy();
                return now.beat;
            case 37:
                ask(now.waiting.size() < 20, 4);
                now.waiting.add(a[0]);
                return now.waiting.size();
            case 38:
                List<Integer> waiting = now.waiting;
                now.waiting = new ArrayList<>();
                listenerAt(a[0]);
                for (int k = 0; k < waiting.size(); k++) {
                    if (now.ahead(k + 1).listeners.get(a[0]).inTime != waiting.get(k)) return 1 + k;
                }
                return 0;
            case 39:
                range(a[0], 0, 10);
                int coins = 0;
                for (Listener l : now.listeners) coins += l.coins;
                return new int[] {
                    now.beat, now.boats.size(), now.listeners.size(), now.singing().size(), now.purse, coins,
                    now.speed, now.tape.length(), now.waiting.size(), trace.size(), now.z,
                }[a[0]];
            default:
                range(a[0], 1, 5);
                return told[a[0]];
        }
    }
}
