import java.util.Arrays;

/**
 * An opera in nine boats on a lagoon. The promises that it keeps are numbered in ../shared/DOC.md,
 * whose words (TIDE, LAG, TOGETHER, AHEAD, ..) the names here follow.
 *
 * All rows are made in constructors and used again, so that a call makes nothing.
 */
public final class LagoonOpera {
    private static final int LOW = -1000000000;
    private static final int BEYOND = 1;
    private static final int NONE = 2;
    private static final int STATE = 3;
    private static final int FULL = 4;
    private static final int KIND = 5;

    private static final int CELLS = 64;
    private static final int PHASES = 4;
    private static final int MOST_BOATS = 9;
    private static final int MOST_LISTENERS = 6;
    private static final int LAST_BEAT = 9999;
    private static final int MOST_IN_TIME = 9999;
    private static final int MOST_IN_PURSE = 999999;
    private static final int MOST_AHEAD = 128;
    private static final int FASTEST = 9;
    private static final int MOST_BYTES = 50;
    private static final int MOST_OPEN = 5;
    private static final int MOST_GIVEN = 99;
    private static final int MOST_WAITING = 20;
    private static final int SHEETS = 4;
    private static final int LONGEST_SHEET = 40;
    private static final int LONGEST_TRACE = 40;

    private static final int LAGS = 0;
    private static final int PAYS = 1;

    private static final int BOAT = 0;
    private static final int BARGE = 1;
    private static final int DRIFTER = 2;
    private static final int TOWED = 3;
    private static final int ECHO = 4;
    private static final int LATE = 5;
    private static final int ROWED = 6;
    private static final int[] KIND_ABOVE = {-1, BOAT, BOAT, BOAT, BARGE, DRIFTER, TOWED};

    private static final int SINGS = 0;
    private static final int DRIFTS = 1;
    private static final int WAITS = 2;
    private static final int TELLS = 3;
    private static final int ACTS = 4;

    private final Laws laws = new Laws();
    private final Scene scene = new Scene();
    private final Desk desk = new Desk();

    private final Laws keptLaws = new Laws();
    private final Scene keptScene = new Scene();
    private final Desk keptDesk = new Desk();
    private int images;

    private final Sheet[] sheets = {new Sheet(), new Sheet(), new Sheet(), new Sheet()};
    private final Voices voices = new Voices();
    private final int[] refusals = new int[KIND + 1];

    private final Reader reader = new Reader();
    private final Scene ahead = new Scene();
    private final Outlook outlook = new Outlook();
    private final int[] scores = new int[CELLS];

    public LagoonOpera() {
    }

    // ---- tides, boats, listeners

    public int tide(int phase, int v) {
        if (phase < 0 || phase >= PHASES || !within(v, 0, 4)) return refuse(BEYOND);
        int was = laws.tides[phase];
        laws.tides[phase] = v;
        return was;
    }

    public int speed(int v) {
        if (!within(v, 1, FASTEST)) return refuse(BEYOND);
        int was = laws.speed;
        laws.speed = v;
        return was;
    }

    public int boat(int km, int cell) {
        if (!isKindAndNumber(km) || !isCell(cell)) return refuse(BEYOND);
        if (scene.boats.afloat >= MOST_BOATS) return refuse(FULL);
        return scene.boats.launch(km, cell);
    }

    public int ofBoat(int boat, int what) {
        Boats boats = scene.boats;
        if (!boats.hold(boat) || !within(what, 0, 4)) return refuse(BEYOND);
        switch (what) {
            case 0: return boats.kinds[boat];
            case 1: return boats.numbers[boat];
            case 2: return boats.cells[boat];
            case 3: return boats.parts[boat];
            default: return boats.sings(boat, scene.pieceBeat()) ? 1 : 0;
        }
    }

    public int change(int boat, int what, int v) {
        Boats boats = scene.boats;
        if (!boats.hold(boat)) return refuse(BEYOND);
        if (what == 2 && isCell(v)) {
            int was = boats.cells[boat];
            boats.cells[boat] = v;
            return was;
        }
        if (what == 3) {
            int was = boats.parts[boat];
            boats.parts[boat] = v;
            return was;
        }
        return refuse(BEYOND);
    }

    public int become(int boat, int km) {
        Boats boats = scene.boats;
        if (!boats.hold(boat) || !isKindAndNumber(km)) return refuse(BEYOND);
        int was = boats.kinds[boat];
        boats.kinds[boat] = km / 10;
        boats.numbers[boat] = km % 10;
        return was;
    }

    public int as(int boat, int kind) {
        Boats boats = scene.boats;
        if (!boats.hold(boat) || !within(kind, BOAT, ROWED)) return refuse(BEYOND);
        if (!isUnder(boats.kinds[boat], kind)) return refuse(KIND);
        return boats.numbers[boat];
    }

    public int lag(int boat, int cell) {
        Boats boats = scene.boats;
        if (!boats.hold(boat) || !isCell(cell)) return refuse(BEYOND);
        int far = far(boats.cells[boat], cell);
        return laws.lagBy(far, laws.speed, scene.pieceBeat()) + boats.later(boat);
    }

    public int listener(int cell) {
        if (!isCell(cell)) return refuse(BEYOND);
        if (scene.listeners >= MOST_LISTENERS) return refuse(FULL);
        return scene.seat(cell);
    }

    public int ofListener(int listener, int what) {
        if (!scene.seats(listener) || !within(what, 0, 3)) return refuse(BEYOND);
        return scene.tellOf(laws, listener, what);
    }

    public int row(int listener, int cell) {
        if (!scene.seats(listener) || !isCell(cell)) return refuse(BEYOND);
        int was = scene.places[listener];
        scene.places[listener] = cell;
        return was;
    }

    // ---- texts

    public int feed(long word, int n) {
        if (!within(n, 1, 8)) return refuse(BEYOND);
        if (desk.fed + n > MOST_BYTES) return refuse(FULL);
        desk.take(word, n);
        return desk.fed;
    }

    public int text(int use) {
        if (!within(use, LAGS, PAYS)) return refuse(BEYOND);
        boolean read = reader.reads(desk.tape, desk.fed, use);
        desk.fed = 0;
        if (!read) return -10 - reader.next;
        laws.adopt(use, reader.draft);
        return 1;
    }

    public int law(int use, int a, int b, int c) {
        if (!within(use, LAGS, PAYS)) return refuse(BEYOND);
        return laws.gives(use, a, b, c);
    }

    // ---- beats

    public int beats(int n) {
        return goOn(n, false);
    }

    public int loose(int n) {
        return goOn(n, true);
    }

    public int then(int n, int boat) {
        if (!isAhead(n) || !scene.boats.hold(boat)) return refuse(BEYOND);
        outlook.watch(scene, n);
        outlook.sail(laws, boat);
        return outlook.cellBehind(n, boat);
    }

    public int thenListener(int n, int listener, int what) {
        if (!isAhead(n) || !scene.seats(listener) || !within(what, 0, 3)) return refuse(BEYOND);
        ahead.copy(scene);
        for (int k = 0; k < n; k++) ahead.goBy(laws, false);
        return ahead.tellOf(laws, listener, what);
    }

    // ---- what is in time

    public int score(int cell, int n) {
        if (!isCell(cell) || !isAhead(n)) return refuse(BEYOND);
        watchAll(n);
        return outlook.inTime(laws, cell, laws.speed);
    }

    public int place(int n) {
        if (!isAhead(n)) return refuse(BEYOND);
        scoreAll(n);
        return firstOfMost(scores, CELLS);
    }

    public long fromHere(int n) {
        if (!isAhead(n)) return refuse(BEYOND);
        scoreAll(n);
        int most = scores[firstOfMost(scores, CELLS)];
        long cells = 0;
        for (int cell = 0; cell < CELLS; cell++) {
            if (scores[cell] == most) cells |= 1L << cell;
        }
        return cells;
    }

    public int mooring(int boat, int cell, int n) {
        if (!scene.boats.hold(boat) || !isCell(cell) || !isAhead(n)) return refuse(BEYOND);
        watchAll(n);
        for (int from = 0; from < CELLS; from++) {
            outlook.boats.cells[boat] = from;
            outlook.sail(laws, boat);
            scores[from] = outlook.inTime(laws, cell, laws.speed);
        }
        return firstOfMost(scores, CELLS);
    }

    public int sooner(int boat, int cell, int n) {
        if (!scene.boats.hold(boat) || !isCell(cell) || !isAhead(n)) return refuse(BEYOND);
        watchAll(n);
        for (int by = 0; by < 32; by++) {
            outlook.boats.parts[boat] = Integer.rotateRight(scene.boats.parts[boat], by);
            outlook.sail(laws, boat);
            scores[by] = outlook.inTime(laws, cell, laws.speed);
        }
        return firstOfMost(scores, 32);
    }

    public int fitSpeed(int cell, int n) {
        if (!isCell(cell) || !isAhead(n)) return refuse(BEYOND);
        watchAll(n);
        for (int v = 1; v <= FASTEST; v++) scores[v - 1] = outlook.inTime(laws, cell, v);
        return firstOfMost(scores, FASTEST) + 1;
    }

    public int fromWhere(int cells, int lags) {
        if (!areThreeCells(cells) || !areThreeLags(lags)) return refuse(BEYOND);
        return Long.bitCount(origins(cells, lags));
    }

    public int whereFrom(int cells, int lags, int i) {
        if (!areThreeCells(cells) || !areThreeLags(lags) || i < 0) return refuse(BEYOND);
        long origins = origins(cells, lags);
        int found = 0;
        for (int cell = 0; cell < CELLS; cell++) {
            if (((origins >>> cell) & 1) == 0) continue;
            if (found == i) return cell;
            found++;
        }
        return refuse(NONE);
    }

    public int strokes(int boat, int n) {
        if (!scene.boats.hold(boat) || !isAhead(n)) return refuse(BEYOND);
        outlook.watch(scene, n);
        outlook.sail(laws, boat);
        int strokes = 0;
        for (int k = 0; k < n; k++) {
            if (outlook.cellBehind(k, boat) != outlook.cellBehind(k + 1, boat)) strokes++;
        }
        return strokes;
    }

    // ---- draws, voices, sheets, images, what is told

    public int seed(int v) {
        int was = scene.fog;
        scene.fog = v;
        return was;
    }

    public int voice(int boat, int act, int x) {
        Boats boats = scene.boats;
        if (!boats.hold(boat) || !within(act, SINGS, TELLS)) return refuse(BEYOND);
        return voices.raise(boat, boats.kinds[boat], boats.numbers[boat], act, x);
    }

    public int trace(int i) {
        if (i < 0 || i >= voices.bodies || i >= voices.trace.length) return refuse(NONE);
        return voices.trace[i];
    }

    public int sheet(int sheet, int bits, int n) {
        Sheet paper = sheetOf(sheet);
        if (paper == null) return refuse(BEYOND);
        if (bits != 0 && bits != 8 && bits != 16 && bits != 32) return refuse(BEYOND);
        if (bits != 0 && n < 0) return refuse(STATE);
        if (bits != 0 && n > LONGEST_SHEET) return refuse(BEYOND);
        paper.lay(bits, bits == 0 ? 0 : n);
        return 1;
    }

    public int put(int sheet, int i, int v) {
        Sheet paper = sheetOf(sheet);
        if (paper == null) return refuse(BEYOND);
        if (paper.isMissing()) return refuse(NONE);
        if (!paper.holds(i)) return refuse(BEYOND);
        paper.write(i, v);
        return 1;
    }

    public int move(int sheet, int i, int other, int j, int n) {
        Sheet from = sheetOf(sheet);
        Sheet to = sheetOf(other);
        if (from == null || to == null) return refuse(BEYOND);
        if (from.isMissing() || to.isMissing()) return refuse(NONE);
        if (from.bits != to.bits) return refuse(KIND);
        if (!from.holdsFrom(i, n) || !to.holdsFrom(j, n)) return refuse(BEYOND);
        System.arraycopy(from.numbers, i, to.numbers, j, n);
        return n;
    }

    public int part(int sheet, int boat) {
        Sheet paper = sheetOf(sheet);
        if (paper == null || !scene.boats.hold(boat)) return refuse(BEYOND);
        if (paper.isMissing()) return refuse(NONE);
        int part = paper.readPart();
        scene.boats.parts[boat] = part;
        return Integer.bitCount(part);
    }

    public int judge(int sheet, int boat) {
        Sheet paper = sheetOf(sheet);
        if (paper == null || !scene.boats.hold(boat)) return refuse(BEYOND);
        if (paper.isMissing()) return refuse(NONE);
        outlook.watch(scene, paper.length);
        outlook.sail(laws, boat);
        for (int k = 0; k < LONGEST_SHEET && paper.holds(k); k++) {
            if (paper.numbers[k] != outlook.cellBehind(k, boat)) return k;
        }
        return paper.length;
    }

    public int image() {
        keptLaws.copy(laws);
        keptScene.copy(scene);
        keptDesk.copy(desk);
        images++;
        return images;
    }

    public int restore() {
        if (images == 0) return refuse(NONE);
        laws.copy(keptLaws);
        scene.copy(keptScene);
        desk.copy(keptDesk);
        return scene.beat;
    }

    public int tell(int v) {
        if (desk.waiting >= MOST_WAITING) return refuse(FULL);
        return desk.add(v);
    }

    public int check(int listener) {
        int waiting = desk.waiting;
        desk.waiting = 0;
        if (!scene.seats(listener)) return refuse(BEYOND);
        ahead.copy(scene);
        for (int k = 0; k < waiting && k < MOST_WAITING; k++) {
            ahead.goBy(laws, false);
            if (desk.numbers[k] != ahead.inTime[listener]) return 1 + k;
        }
        return 0;
    }

    public int count(int what) {
        switch (what) {
            case 0: return scene.beat;
            case 1: return scene.boats.afloat;
            case 2: return scene.listeners;
            case 3: return Integer.bitCount(scene.boats.singers(scene.pieceBeat()));
            case 4: return scene.purse;
            case 5: return scene.allCoins();
            case 6: return laws.speed;
            case 7: return desk.fed;
            case 8: return desk.waiting;
            case 9: return voices.bodies;
            case 10: return scene.fog;
            default: return refuse(BEYOND);
        }
    }

    public int told(int k) {
        if (!within(k, BEYOND, KIND)) return refuse(BEYOND);
        return refusals[k];
    }

    // ---- what the acts share

    private int refuse(int error) {
        if (error >= 0 && error < refusals.length) refusals[error]++;
        return LOW - error;
    }

    private int goOn(int n, boolean inFog) {
        if (!within(n, 1, MOST_AHEAD)) return refuse(BEYOND);
        if (scene.beat + n > LAST_BEAT) return refuse(STATE);
        for (int k = 0; k < n; k++) scene.goBy(laws, inFog);
        return scene.purse;
    }

    private void watchAll(int n) {
        outlook.watch(scene, n);
        for (int boat = 0; boat < MOST_BOATS; boat++) {
            if (scene.boats.hold(boat)) outlook.sail(laws, boat);
        }
    }

    private void scoreAll(int n) {
        watchAll(n);
        for (int cell = 0; cell < CELLS; cell++) scores[cell] = outlook.inTime(laws, cell, laws.speed);
    }

    private long origins(int cells, int lags) {
        long origins = 0;
        for (int cell = 0; cell < CELLS; cell++) {
            boolean one = isHeardBehind(cell, cells / 4096, lags / 10000);
            boolean two = isHeardBehind(cell, cells / 64 % 64, lags / 100 % 100);
            boolean three = isHeardBehind(cell, cells % 64, lags % 100);
            if (one && two && three) origins |= 1L << cell;
        }
        return origins;
    }

    private boolean isHeardBehind(int from, int there, int lag) {
        return laws.lagBy(far(from, there), laws.speed, scene.pieceBeat()) == lag;
    }

    private Sheet sheetOf(int sheet) {
        return sheet >= 0 && sheet < SHEETS && sheet < sheets.length ? sheets[sheet] : null;
    }

    private static boolean within(int v, int least, int most) {
        return v >= least && v <= most;
    }

    private static boolean isCell(int cell) {
        return within(cell, 0, CELLS - 1);
    }

    private static boolean isAhead(int n) {
        return within(n, 0, MOST_AHEAD);
    }

    private static boolean isKindAndNumber(int km) {
        return within(km, 0, 10 * ROWED + 9);
    }

    private static boolean areThreeCells(int cells) {
        return within(cells, 0, CELLS * CELLS * CELLS - 1);
    }

    private static boolean areThreeLags(int lags) {
        return within(lags, 0, 999999);
    }

    private static int above(int kind) {
        return kind >= 0 && kind < KIND_ABOVE.length ? KIND_ABOVE[kind] : -1;
    }

    private static boolean isUnder(int kind, int other) {
        int one = kind;
        for (int steps = 0; steps < KIND_ABOVE.length && one >= 0; steps++) {
            if (one == other) return true;
            one = above(one);
        }
        return false;
    }

    private static int far(int one, int other) {
        int rows = Math.abs((one >> 3) - (other >> 3));
        int columns = Math.abs((one & 7) - (other & 7));
        return Math.max(rows, columns);
    }

    private static int nextCell(int cell, int way) {
        switch (way) {
            case 1: return cell >> 3 == 0 ? cell : cell - 8;
            case 2: return (cell & 7) == 7 ? cell : cell + 1;
            case 3: return cell >> 3 == 7 ? cell : cell + 8;
            case 4: return (cell & 7) == 0 ? cell : cell - 1;
            default: return cell;
        }
    }

    private static int firstOfMost(int[] row, int n) {
        int best = 0;
        for (int i = 1; i < n && i < row.length; i++) {
            if (row[i] > row[best]) best = i;
        }
        return best;
    }

    /** The BOATS by their numbers. */
    private static final class Boats {
        private int afloat;
        private final int[] kinds = new int[MOST_BOATS];
        private final int[] numbers = new int[MOST_BOATS];
        private final int[] cells = new int[MOST_BOATS];
        private final int[] parts = new int[MOST_BOATS];

        void copy(Boats other) {
            afloat = other.afloat;
            System.arraycopy(other.kinds, 0, kinds, 0, MOST_BOATS);
            System.arraycopy(other.numbers, 0, numbers, 0, MOST_BOATS);
            System.arraycopy(other.cells, 0, cells, 0, MOST_BOATS);
            System.arraycopy(other.parts, 0, parts, 0, MOST_BOATS);
        }

        boolean hold(int boat) {
            return boat >= 0 && boat < afloat && boat < MOST_BOATS;
        }

        int launch(int km, int cell) {
            int boat = afloat;
            if (boat < 0 || boat >= MOST_BOATS) return boat;
            kinds[boat] = km / 10;
            numbers[boat] = km % 10;
            cells[boat] = cell;
            parts[boat] = 0;
            afloat++;
            return boat;
        }

        boolean sings(int boat, int t) {
            return hold(boat) && ((parts[boat] >>> t) & 1) == 1;
        }

        /** The BOATS that sing in a BEAT of THE PIECE, a bit each. */
        int singers(int t) {
            int singers = 0;
            for (int boat = 0; boat < afloat && boat < MOST_BOATS; boat++) {
                if (sings(boat, t)) singers |= 1 << boat;
            }
            return singers;
        }

        /** By how much more than LAGS a note of the BOAT comes behind. */
        int later(int boat) {
            if (!hold(boat)) return 0;
            if (kinds[boat] == LATE) return numbers[boat] / 3;
            return kinds[boat] == ECHO ? numbers[boat] : 0;
        }

        /** Where the BOAT is behind BEAT t of THE PIECE, if it was in the CELL in it. */
        int behind(int boat, int cell, int t, int tide) {
            if (!hold(boat)) return cell;
            switch (kinds[boat]) {
                case BOAT: return rocked(cell, t, tide);
                case DRIFTER: return nextCell(cell, tide);
                case LATE: return t < numbers[boat] ? cell : nextCell(cell, tide);
                case TOWED: return pulled(boat, cell, t, tide);
                case ROWED: return sings(boat, t) ? pulled(boat, cell, t, tide) : cell;
                default: return cell;
            }
        }

        private static int rocked(int cell, int t, int tide) {
            return (t & 1) == 1 ? nextCell(cell, tide) : cell;
        }

        private int pulled(int boat, int cell, int t, int tide) {
            int there = rocked(cell, t, tide);
            return (t & 7) == 7 && hold(boat) ? nextCell(there, numbers[boat] % 4 + 1) : there;
        }

        /** Whether those that are heard (a bit each), from where they are, come there with one LAG. */
        boolean together(Laws laws, int[] from, int there, int t, int speed, int heard) {
            if (Integer.bitCount(heard) < 2) return false;
            int first = -1;
            for (int boat = 0; boat < MOST_BOATS && boat < from.length; boat++) {
                if (((heard >>> boat) & 1) == 0) continue;
                int lag = laws.lagBy(far(from[boat], there), speed, t) + later(boat);
                if (first >= 0 && lag != first) return false;
                first = lag;
            }
            return true;
        }
    }

    /** What BEATS change: BOATS, LISTENERS, THE PURSE, FOG. */
    private static final class Scene {
        private int beat;
        private int purse;
        private int fog = 1;
        private final Boats boats = new Boats();
        private int listeners;
        private final int[] places = new int[MOST_LISTENERS];
        private final int[] inTime = new int[MOST_LISTENERS];
        private final int[] coins = new int[MOST_LISTENERS];

        void copy(Scene other) {
            beat = other.beat;
            purse = other.purse;
            fog = other.fog;
            boats.copy(other.boats);
            listeners = other.listeners;
            System.arraycopy(other.places, 0, places, 0, MOST_LISTENERS);
            System.arraycopy(other.inTime, 0, inTime, 0, MOST_LISTENERS);
            System.arraycopy(other.coins, 0, coins, 0, MOST_LISTENERS);
        }

        int pieceBeat() {
            return beat & 31;
        }

        boolean seats(int listener) {
            return listener >= 0 && listener < listeners && listener < MOST_LISTENERS;
        }

        int seat(int cell) {
            int listener = listeners;
            if (listener < 0 || listener >= MOST_LISTENERS) return listener;
            places[listener] = cell;
            inTime[listener] = 0;
            coins[listener] = 50;
            listeners++;
            return listener;
        }

        int allCoins() {
            int all = 0;
            for (int i = 0; i < listeners && i < MOST_LISTENERS; i++) all += coins[i];
            return all;
        }

        int tellOf(Laws laws, int listener, int what) {
            if (!seats(listener)) return 0;
            if (what == 0) return places[listener];
            if (what == 1) return inTime[listener];
            if (what == 2) return coins[listener];
            int t = pieceBeat();
            return boats.together(laws, boats.cells, places[listener], t, laws.speed, boats.singers(t)) ? 1 : 0;
        }

        void goBy(Laws laws, boolean inFog) {
            int t = pieceBeat();
            int heard = boats.singers(t);
            if (inFog) heard = leftByFog(heard);
            for (int i = 0; i < listeners && i < MOST_LISTENERS; i++) {
                boolean together = boats.together(laws, boats.cells, places[i], t, laws.speed, heard);
                if (together) inTime[i] = Math.min(MOST_IN_TIME, inTime[i] + 1);
                int price = laws.gives(PAYS, Integer.bitCount(heard), together ? 1 : 0, t);
                int paid = Math.min(price, coins[i]);
                coins[i] -= paid;
                purse = Math.min(MOST_IN_PURSE, purse + paid);
            }
            int tide = laws.tideIn(t);
            for (int boat = 0; boat < boats.afloat && boat < MOST_BOATS; boat++) {
                boats.cells[boat] = boats.behind(boat, boats.cells[boat], t, tide);
            }
            beat++;
        }

        private int leftByFog(int singers) {
            int left = singers;
            for (int boat = 0; boat < MOST_BOATS; boat++) {
                if (((singers >>> boat) & 1) == 0) continue;
                fog = fog * 1103515245 + 12345;
                if ((fog >>> 8) % 6 == 0) left &= ~(1 << boat);
            }
            return left;
        }
    }

    /** TIDES, SPEED, and the TEXTS of the USES. */
    private static final class Laws {
        private static final int UNKNOWN = -1;

        private int speed = 2;
        private final int[] tides = new int[PHASES];
        private final Formula lags = new Formula();
        private final Formula pays = new Formula();
        // what LAGS gave, by SPEED, BEAT of THE PIECE and FAR: the long looks ahead ask the same again and again
        private final int[] given = new int[FASTEST * 32 * 8];

        Laws() {
            Arrays.fill(given, UNKNOWN);
        }

        void copy(Laws other) {
            speed = other.speed;
            System.arraycopy(other.tides, 0, tides, 0, PHASES);
            lags.copy(other.lags);
            pays.copy(other.pays);
            Arrays.fill(given, UNKNOWN);
        }

        void adopt(int use, Formula draft) {
            if (use == LAGS) {
                lags.copy(draft);
                Arrays.fill(given, UNKNOWN);
            } else {
                pays.copy(draft);
            }
        }

        int tideIn(int t) {
            return tides[(t >> 3) & 3];
        }

        int lagBy(int far, int v, int t) {
            int at = ((v - 1) * 32 + t) * 8 + far;
            if (at < 0 || at >= given.length) return gives(LAGS, far, v, t);
            if (given[at] == UNKNOWN) given[at] = gives(LAGS, far, v, t);
            return given[at];
        }

        int gives(int use, int a, int b, int c) {
            Formula read = use == LAGS ? lags : pays;
            int v = read.isThere() ? read.worth(a, b, c) : withoutText(use, a, b);
            return Math.max(0, Math.min(MOST_GIVEN, v));
        }

        private static int withoutText(int use, int a, int b) {
            if (use == PAYS) return b;
            return b == 0 ? 0 : a / b;
        }
    }

    /**
     * A TEXT that was read, in the order in which it is worked out: numbers stand as they are,
     * NAMES as -1 .. -3, operators as their signs, negative.
     */
    private static final class Formula {
        private static final int LAST_NAME = -3;

        private int length;
        private final int[] steps = new int[MOST_BYTES];
        private final int[] stack = new int[MOST_BYTES];

        boolean isThere() {
            return length > 0;
        }

        void copy(Formula other) {
            length = other.length;
            System.arraycopy(other.steps, 0, steps, 0, MOST_BYTES);
        }

        void add(int step) {
            if (length < 0 || length >= MOST_BYTES) return;
            steps[length] = step;
            length++;
        }

        int worth(int a, int b, int c) {
            int top = 0;
            for (int i = 0; i < length && i < MOST_BYTES; i++) {
                int step = steps[i];
                if (step >= LAST_NAME) {
                    if (top < 0 || top >= MOST_BYTES) return 0;
                    stack[top] = step >= 0 ? step : step == -1 ? a : step == -2 ? b : c;
                    top++;
                } else if (step == -'!') {
                    if (top < 1 || top > MOST_BYTES) return 0;
                    stack[top - 1] = stack[top - 1] == 0 ? 1 : 0;
                } else {
                    if (top < 2 || top > MOST_BYTES) return 0;
                    top--;
                    stack[top - 1] = joined(-step, stack[top - 1], stack[top]);
                }
            }
            return stack[0];
        }

        private static int joined(int sign, int x, int y) {
            switch (sign) {
                case '|': return x != 0 || y != 0 ? 1 : 0;
                case '&': return x != 0 && y != 0 ? 1 : 0;
                case '<': return x < y ? 1 : 0;
                case '=': return x == y ? 1 : 0;
                case '>': return x > y ? 1 : 0;
                case '+': return x + y;
                case '-': return x - y;
                case '*': return x * y;
                case '/': return y == 0 ? 0 : x / y;
                case '%': return y == 0 ? 0 : x % y;
                default: return 0;
            }
        }
    }

    /**
     * Reads a TEXT, a method for each line of its grammar. Where one of them answers false, next stands
     * at the first byte with which no TEXT goes on, or behind the last one: at the FAULT.
     */
    private static final class Reader {
        private static final char[] NAMES = {'d', 's', 't', 'n', 'i', 't'};

        private final Formula draft = new Formula();
        private final int[] bytes = new int[MOST_BYTES];
        private int length;
        private int next;
        private int use;

        boolean reads(int[] tape, int fed, int ofUse) {
            length = Math.max(0, Math.min(fed, Math.min(tape.length, MOST_BYTES)));
            System.arraycopy(tape, 0, bytes, 0, length);
            next = 0;
            use = ofUse;
            draft.length = 0;
            return readT(0) && next == length;
        }

        private int sign() {
            return next >= 0 && next < length && next < MOST_BYTES ? bytes[next] : -1;
        }

        private boolean takes(int sign) {
            if (sign() != sign) return false;
            next++;
            return true;
        }

        private boolean readT(int open) {
            if (!readA(open)) return false;
            for (int more = 0; more < MOST_BYTES && takes('|'); more++) {
                if (!readA(open)) return false;
                draft.add(-'|');
            }
            return true;
        }

        private boolean readA(int open) {
            if (!readB(open)) return false;
            for (int more = 0; more < MOST_BYTES && takes('&'); more++) {
                if (!readB(open)) return false;
                draft.add(-'&');
            }
            return true;
        }

        private boolean readB(int open) {
            if (!readS(open)) return false;
            int sign = sign();
            if (sign != '<' && sign != '=' && sign != '>') return true;
            next++;
            if (!readS(open)) return false;
            draft.add(-sign);
            return true;
        }

        private boolean readS(int open) {
            if (!readP(open)) return false;
            for (int more = 0; more < MOST_BYTES; more++) {
                int sign = sign();
                if (sign != '+' && sign != '-') return true;
                next++;
                if (!readP(open)) return false;
                draft.add(-sign);
            }
            return true;
        }

        private boolean readP(int open) {
            if (!readQ(open)) return false;
            for (int more = 0; more < MOST_BYTES; more++) {
                int sign = sign();
                if (sign != '*' && sign != '/' && sign != '%') return true;
                next++;
                if (!readQ(open)) return false;
                draft.add(-sign);
            }
            return true;
        }

        private boolean readQ(int open) {
            if (isDigit(sign())) {
                readNumber();
                return true;
            }
            if (readName()) return true;
            if (open >= MOST_OPEN) return false;
            if (takes('!')) {
                if (!readQ(open + 1)) return false;
                draft.add(-'!');
                return true;
            }
            return takes('(') && readT(open + 1) && takes(')');
        }

        private void readNumber() {
            int v = 0;
            for (int digits = 0; digits < 4 && isDigit(sign()); digits++) {
                v = v * 10 + sign() - '0';
                next++;
            }
            draft.add(v);
        }

        private boolean readName() {
            for (int i = 0; i < 3; i++) {
                int at = use * 3 + i;
                if (at < 0 || at >= NAMES.length || !takes(NAMES[at])) continue;
                draft.add(-1 - i);
                return true;
            }
            return false;
        }

        private static boolean isDigit(int sign) {
            return sign >= '0' && sign <= '9';
        }
    }

    /** THE TAPE, and the numbers that wait. */
    private static final class Desk {
        private final int[] tape = new int[MOST_BYTES];
        private int fed;
        private final int[] numbers = new int[MOST_WAITING];
        private int waiting;

        void copy(Desk other) {
            fed = other.fed;
            System.arraycopy(other.tape, 0, tape, 0, MOST_BYTES);
            waiting = other.waiting;
            System.arraycopy(other.numbers, 0, numbers, 0, MOST_WAITING);
        }

        void take(long word, int n) {
            for (int i = 0; i < n && fed >= 0 && fed < MOST_BYTES; i++) {
                tape[fed] = (int) (word >>> (8 * i)) & 255;
                fed++;
            }
        }

        int add(int v) {
            if (waiting < 0 || waiting >= MOST_WAITING) return waiting;
            numbers[waiting] = v;
            waiting++;
            return waiting;
        }
    }

    /**
     * Where BOATS are in the BEATS from now on, and which of them sing then: copies, so that a BOAT
     * can be tried from another CELL or with another PART. Only BOATS that sailed are known.
     */
    private static final class Outlook {
        private final Boats boats = new Boats();
        private int beat;
        private int n;
        private final int[][] cells = new int[MOST_AHEAD + 1][MOST_BOATS];
        private final int[] singers = new int[MOST_AHEAD + 1];

        void watch(Scene scene, int beats) {
            boats.copy(scene.boats);
            beat = scene.beat;
            n = Math.max(0, Math.min(MOST_AHEAD, beats));
            Arrays.fill(singers, 0);
        }

        void sail(Laws laws, int boat) {
            if (!boats.hold(boat)) return;
            int cell = boats.cells[boat];
            for (int k = 0; k <= n && k <= MOST_AHEAD; k++) {
                int t = (beat + k) & 31;
                int bit = 1 << boat;
                cells[k][boat] = cell;
                singers[k] = boats.sings(boat, t) ? singers[k] | bit : singers[k] & ~bit;
                cell = boats.behind(boat, cell, t, laws.tideIn(t));
            }
        }

        int cellBehind(int k, int boat) {
            return k >= 0 && k <= MOST_AHEAD && boats.hold(boat) ? cells[k][boat] : 0;
        }

        /** In how many of the BEATS it is TOGETHER there, with that SPEED. */
        int inTime(Laws laws, int there, int speed) {
            int inTime = 0;
            for (int k = 0; k < n && k < MOST_AHEAD; k++) {
                if (boats.together(laws, cells[k], there, (beat + k) & 31, speed, singers[k])) inTime++;
            }
            return inTime;
        }
    }

    /** The VOICES, and THE TRACE of the latest one. */
    private static final class Voices {
        private static final int DEEPEST = 40;
        private static final int[] BODIES = {
            10, 11, 12, 13,
            0, 20, 0, 0,
            30, 0, 0, 0,
            0, 0, 40, 0,
            0, 50, 0, 0,
            0, 0, 0, 60,
            0, 0, 70, 71,
        };

        private final int[] trace = new int[LONGEST_TRACE];
        private int bodies;
        private int boat;
        private int kind;
        private int number;

        int raise(int ofBoat, int ofKind, int withNumber, int act, int x) {
            boat = ofBoat;
            kind = ofKind;
            number = withNumber;
            bodies = 0;
            return own(act, x, 0);
        }

        private int own(int act, int x, int depth) {
            return from(kind, act, x, depth);
        }

        private int from(int lowest, int act, int x, int depth) {
            int body = bodyFrom(lowest, act);
            if (body == 0 || depth >= DEEPEST) return 0;
            begin(body);
            int higher = above(body / 10 - 1);
            int d = depth + 1;
            switch (body) {
                case 10: return x + boat;
                case 11: return own(SINGS, x, d) * 2;
                case 12: return x - number;
                case 13: return own(DRIFTS, x, d) ^ own(WAITS, x, d);
                case 20: return from(higher, DRIFTS, x, d) - own(WAITS, 1, d);
                case 30: return from(higher, SINGS, x, d) * 3;
                case 40: return -from(higher, WAITS, x, d);
                case 50: return from(higher, DRIFTS, x + 1, d);
                case 60: return from(higher, TELLS, x, d) - own(SINGS, 2, d);
                case 70: return from(higher, WAITS, x, d) ^ boat;
                case 71: return own(DRIFTS, x, d) - from(higher, TELLS, x, d);
                default: return 0;
            }
        }

        private static int bodyFrom(int lowest, int act) {
            int one = lowest;
            for (int steps = 0; steps < KIND_ABOVE.length && one >= 0; steps++) {
                int at = one * ACTS + act;
                if (at >= 0 && at < BODIES.length && BODIES[at] != 0) return BODIES[at];
                one = above(one);
            }
            return 0;
        }

        private void begin(int body) {
            if (bodies < 0 || bodies >= LONGEST_TRACE) return;
            trace[bodies] = body;
            bodies++;
        }
    }

    /** A SHEET; its numbers stand as their lowest bits, without a sign where they are fewer than 32. */
    private static final class Sheet {
        private int bits;
        private int length;
        private final int[] numbers = new int[LONGEST_SHEET];

        boolean isMissing() {
            return bits == 0;
        }

        boolean holds(int i) {
            return i >= 0 && i < length && i < LONGEST_SHEET;
        }

        boolean holdsFrom(int i, int n) {
            return i >= 0 && n >= 0 && i <= length - n && length <= LONGEST_SHEET;
        }

        void lay(int newBits, int n) {
            bits = newBits;
            length = n;
            Arrays.fill(numbers, 0);
        }

        void write(int i, int v) {
            if (!holds(i)) return;
            numbers[i] = bits == 8 ? v & 0xFF : bits == 16 ? v & 0xFFFF : v;
        }

        int readPart() {
            int part = 0;
            for (int i = 0; i < length && i < LONGEST_SHEET; i++) {
                if (!within(numbers[i], 0, 31)) return part;
                part |= 1 << numbers[i];
            }
            return part;
        }
    }
}
