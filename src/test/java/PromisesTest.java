/** Promises 1 to 42, a method each: ordinary calls, the edges, refused calls in the order of their ERRORS. */
public final class PromisesTest {
    private static final int LOW = Due.LOW;
    private static final int BEYOND = Due.BEYOND;
    private static final int NONE = Due.NONE;
    private static final int STATE = Due.STATE;
    private static final int FULL = Due.FULL;
    private static final int KIND = Due.KIND;
    private static final int ALL = Due.ALL;
    private static final int LEAST = Integer.MIN_VALUE;
    private static final int MOST = Integer.MAX_VALUE;

    public static void main(String[] args) {
        tidesBoatsListeners();
        texts();
        beatsGoBy();
        whatIsInTime();
        drawsAndVoices();
        sheets();
        imagesAndTold();
        Due.end();
    }

    private static void tidesBoatsListeners() {
        promise1();
        promise2();
        promise3();
        promise4();
        promise5();
        promise6();
        promise7();
        promise8();
        promise9();
        promise10();
        promise11();
        promise12();
        promise2Moves();
        promise9Together();
    }

    private static void texts() {
        promise13();
        promise14();
        promise14Faults();
        promise14Longest();
        promise15();
        promise15Signs();
    }

    private static void beatsGoBy() {
        promise16();
        promise16Pays();
        promise17();
        promise18();
        promise19();
    }

    private static void whatIsInTime() {
        promise20();
        promise21();
        promise22();
        promise23();
        promise24();
        promise25();
        promise26();
        promise27();
        promise28();
    }

    private static void drawsAndVoices() {
        promise29();
        promise30();
        promise30Bodies();
        promise31();
    }

    private static void sheets() {
        promise32();
        promise33();
        promise34();
        promise34Overlap();
        promise35();
        promise36();
    }

    private static void imagesAndTold() {
        promise37();
        promise38();
        promise39();
        promise40();
        promise41();
        promise42();
    }

    // ---- tides, boats, listeners

    private static void promise1() {
        LagoonOpera x = new LagoonOpera();
        int[] due = {0, 0, 0, 0, 0, 0, 2, 0, 0, 0, 1};
        for (int what = 0; what < due.length; what++) Due.is("new: count(" + what + ")", x.count(what), due[what]);
        for (int k = 1; k <= 5; k++) Due.is("new: told(" + k + ")", x.told(k), 0);
        for (int phase = 0; phase < 4; phase++) Due.is("new: tide", x.tide(phase, 0), 0);
        Due.is("new: no boat", x.ofBoat(0, 0), BEYOND);
        Due.is("new: no listener", x.ofListener(0, 0), BEYOND);
        Due.is("new: no sheet", x.put(0, 0, 0), NONE);
        Due.is("new: no image", x.restore(), NONE);
        Due.is("new: no trace", x.trace(0), NONE);
        Due.is("new: LAGS without a TEXT", x.law(0, 7, 2, 0), 3);
        Due.is("new: PAYS without a TEXT", x.law(1, 7, 1, 0), 1);
    }

    private static void promise2() {
        LagoonOpera x = new LagoonOpera();
        for (int v = 1; v <= 4; v++) Due.is("tide(3, " + v + ")", x.tide(3, v), v - 1);
        Due.is("tide(0, 4)", x.tide(0, 4), 0);
        Due.is("tide(3, 0)", x.tide(3, 0), 4);
        Due.is("tide(-1, 0)", x.tide(-1, 0), BEYOND);
        Due.is("tide(4, 0)", x.tide(4, 0), BEYOND);
        Due.is("tide(0, -1)", x.tide(0, -1), BEYOND);
        Due.is("tide(0, 5)", x.tide(0, 5), BEYOND);
        Due.is("tide(0, 0), unchanged by refused ones", x.tide(0, 0), 4);
        Due.is("tide(LEAST, LEAST)", x.tide(LEAST, LEAST), BEYOND);
        Due.is("tide(MOST, MOST)", x.tide(MOST, MOST), BEYOND);
    }

    /** How each KIND MOVES, by ways, borders, phases. */
    private static void promise2Moves() {
        LagoonOpera x = new LagoonOpera();
        int middle = Due.cell(4, 4);
        int drifter = x.boat(20, middle);
        int[] next = {middle, Due.cell(3, 4), Due.cell(4, 5), Due.cell(5, 4), Due.cell(4, 3)};
        int[] border = {middle, Due.cell(0, 4), Due.cell(4, 7), Due.cell(7, 4), Due.cell(4, 0)};
        for (int v = 0; v <= 4; v++) {
            Due.tides(x, v);
            Due.is("a DRIFTER by TIDE " + v, x.then(1, drifter), next[v]);
            Due.is("a DRIFTER at the border by TIDE " + v, x.then(9, drifter), border[v]);
        }
        movesByPhase();
        movesByKind();
    }

    private static void movesByPhase() {
        LagoonOpera x = new LagoonOpera();
        int drifter = x.boat(20, Due.cell(7, 0));
        x.tide(0, 1);
        x.tide(1, 2);
        x.tide(2, 3);
        x.tide(3, 0);
        Due.is("phase 0 north", x.then(8, drifter), Due.cell(0, 0));
        Due.is("phase 1 east", x.then(10, drifter), Due.cell(0, 2));
        Due.is("phase 1 east to the border", x.then(16, drifter), Due.cell(0, 7));
        Due.is("phase 2 south", x.then(17, drifter), Due.cell(1, 7));
        Due.is("phase 3 none", x.then(32, drifter), Due.cell(7, 7));
        Due.is("THE PIECE begins anew", x.then(33, drifter), Due.cell(6, 7));
    }

    private static void movesByKind() {
        LagoonOpera x = new LagoonOpera();
        Due.tides(x, 2);
        int[] row = new int[7];
        int[] kms = {0, 10, 20, 31, 49, 53, 61};
        for (int kind = 0; kind < 7; kind++) row[kind] = Due.boat(x, kms[kind], Due.cell(kind, 0), 0);
        x.change(6, 3, Due.bit(1) | Due.bit(2) | Due.bit(7));
        int[][] columns = {
            {0, 0, 1, 1, 2, 2, 3, 3, 4},
            {0, 0, 0, 0, 0, 0, 0, 0, 0},
            {0, 1, 2, 3, 4, 5, 6, 7, 7},
            {0, 0, 1, 1, 2, 2, 3, 3, 5},
            {0, 0, 0, 0, 0, 0, 0, 0, 0},
            {0, 0, 0, 0, 1, 2, 3, 4, 5},
            {0, 0, 1, 1, 1, 1, 1, 1, 3},
        };
        for (int kind = 0; kind < 7; kind++) {
            for (int n = 0; n <= 8; n++) {
                String call = "KIND " + kind + " behind " + n + " BEATS";
                Due.is(call, x.then(n, row[kind]), Due.cell(kind, columns[kind][n]));
            }
        }
        towedWays();
        lateByPiece();
    }

    private static void towedWays() {
        int[] there = {Due.cell(3, 4), Due.cell(4, 5), Due.cell(5, 4), Due.cell(4, 3)};
        for (int m = 0; m <= 9; m++) {
            LagoonOpera x = new LagoonOpera();
            int towed = x.boat(30 + m, Due.cell(4, 4));
            Due.is("TOWED " + m + " ahead of 7", x.then(7, towed), Due.cell(4, 4));
            Due.is("TOWED " + m + " behind 7", x.then(8, towed), there[m % 4]);
            Due.is("TOWED " + m + " behind 14", x.then(15, towed), there[m % 4]);
        }
        LagoonOpera x = new LagoonOpera();
        int towed = x.boat(30, Due.cell(7, 0));
        x.tide(0, 3);
        Due.is("TIDE first, at the border, then the tow", x.then(8, towed), Due.cell(6, 0));
        x.change(towed, 2, Due.cell(0, 0));
        Due.is("TIDE 4 times, then the tow", x.then(8, towed), Due.cell(3, 0));
    }

    private static void lateByPiece() {
        LagoonOpera x = new LagoonOpera();
        int late = x.boat(52, 0);
        x.tide(0, 2);
        x.beats(8);
        Due.is("LATE 2 behind a phase", x.ofBoat(late, 2), 6);
        x.beats(24);
        x.change(late, 2, 0);
        Due.is("LATE 2 waits in each turn of THE PIECE", x.then(2, late), 0);
        Due.is("LATE 2 goes on behind it", x.then(3, late), 1);
    }

    private static void promise3() {
        LagoonOpera x = new LagoonOpera();
        Due.is("speed(1)", x.speed(1), 2);
        Due.is("speed(9)", x.speed(9), 1);
        Due.is("speed(0)", x.speed(0), BEYOND);
        Due.is("speed(10)", x.speed(10), BEYOND);
        Due.is("speed(LEAST)", x.speed(LEAST), BEYOND);
        Due.is("speed(MOST)", x.speed(MOST), BEYOND);
        Due.is("count(6)", x.count(6), 9);
        x.boat(0, 0);
        Due.is("lag by SPEED 9", x.lag(0, 63), 0);
        x.speed(3);
        Due.is("lag by SPEED 3", x.lag(0, 63), 2);
    }

    private static void promise4() {
        LagoonOpera x = new LagoonOpera();
        Due.is("boat(-1, 0)", x.boat(-1, 0), BEYOND);
        Due.is("boat(70, 0)", x.boat(70, 0), BEYOND);
        Due.is("boat(0, -1)", x.boat(0, -1), BEYOND);
        Due.is("boat(0, 64)", x.boat(0, 64), BEYOND);
        Due.is("count(1) behind refused ones", x.count(1), 0);
        for (int i = 0; i < 9; i++) Due.is("boat " + i, x.boat(69 - i, 63 - i), i);
        Due.is("boat(0, 0), a tenth", x.boat(0, 0), FULL);
        Due.is("boat(70, 0), a tenth", x.boat(70, 0), BEYOND);
        Due.is("boat(0, 64), a tenth", x.boat(0, 64), BEYOND);
        Due.is("count(1)", x.count(1), 9);
        for (int i = 0; i < 9; i++) {
            Due.is("KIND of " + i, x.ofBoat(i, 0), 6);
            Due.is("m of " + i, x.ofBoat(i, 1), 9 - i);
            Due.is("CELL of " + i, x.ofBoat(i, 2), 63 - i);
            Due.is("PART of " + i, x.ofBoat(i, 3), 0);
        }
        Due.is("told(4)", x.told(4), 1);
    }

    private static void promise5() {
        LagoonOpera x = new LagoonOpera();
        x.boat(47, 36);
        x.change(0, 3, Due.bit(0) | Due.bit(31));
        Due.is("KIND", x.ofBoat(0, 0), 4);
        Due.is("m", x.ofBoat(0, 1), 7);
        Due.is("CELL", x.ofBoat(0, 2), 36);
        Due.is("PART", x.ofBoat(0, 3), 0x80000001);
        Due.is("sings in BEAT 0", x.ofBoat(0, 4), 1);
        x.beats(1);
        Due.is("sings in BEAT 1", x.ofBoat(0, 4), 0);
        x.beats(30);
        Due.is("sings in BEAT 31", x.ofBoat(0, 4), 1);
        x.beats(1);
        Due.is("sings in BEAT 32", x.ofBoat(0, 4), 1);
        Due.is("ofBoat(0, 5)", x.ofBoat(0, 5), BEYOND);
        Due.is("ofBoat(0, -1)", x.ofBoat(0, -1), BEYOND);
        Due.is("ofBoat(1, 0)", x.ofBoat(1, 0), BEYOND);
        Due.is("ofBoat(-1, 0)", x.ofBoat(-1, 0), BEYOND);
        Due.is("ofBoat(9, 0)", x.ofBoat(9, 0), BEYOND);
    }

    private static void promise6() {
        LagoonOpera x = new LagoonOpera();
        x.boat(0, 5);
        Due.is("change(0, 2, 63)", x.change(0, 2, 63), 5);
        Due.is("change(0, 2, 0)", x.change(0, 2, 0), 63);
        Due.is("change(0, 2, 64)", x.change(0, 2, 64), BEYOND);
        Due.is("change(0, 2, -1)", x.change(0, 2, -1), BEYOND);
        Due.is("CELL stays", x.ofBoat(0, 2), 0);
        Due.is("change(0, 3, BEYOND)", x.change(0, 3, BEYOND), 0);
        Due.is("a PART may be any number", x.change(0, 3, 7), BEYOND);
        int[] whats = {-1, 0, 1, 4, 5, LEAST, MOST};
        for (int what : whats) Due.is("change(0, " + what + ", 1)", x.change(0, what, 1), BEYOND);
        Due.is("change(1, 2, 0)", x.change(1, 2, 0), BEYOND);
        Due.is("change(-1, 3, 0)", x.change(-1, 3, 0), BEYOND);
        Due.is("PART stays", x.ofBoat(0, 3), 7);
        Due.is("told(1), a PART isn't an ERROR", x.told(1), 11);
    }

    private static void promise7() {
        LagoonOpera x = new LagoonOpera();
        x.boat(0, 9);
        x.change(0, 3, 5);
        Due.is("become(0, 69)", x.become(0, 69), 0);
        Due.is("become(0, 25)", x.become(0, 25), 6);
        Due.is("m", x.ofBoat(0, 1), 5);
        Due.is("CELL stays", x.ofBoat(0, 2), 9);
        Due.is("PART stays", x.ofBoat(0, 3), 5);
        Due.is("become(0, 70)", x.become(0, 70), BEYOND);
        Due.is("become(0, -1)", x.become(0, -1), BEYOND);
        Due.is("become(1, 0)", x.become(1, 0), BEYOND);
        Due.is("become(-1, 0)", x.become(-1, 0), BEYOND);
        Due.is("become(0, 0)", x.become(0, 0), 2);
    }

    private static void promise8() {
        boolean[][] under = new boolean[7][7];
        int[] above = {-1, 0, 0, 0, 1, 2, 3};
        for (int kind = 0; kind < 7; kind++) {
            for (int up = kind; up >= 0; up = above[up]) under[kind][up] = true;
        }
        LagoonOpera x = new LagoonOpera();
        x.boat(0, 0);
        int refused = 0;
        for (int kind = 0; kind < 7; kind++) {
            x.become(0, 10 * kind + 9 - kind);
            for (int as = 0; as < 7; as++) {
                Due.is("as(KIND " + kind + ", " + as + ")", x.as(0, as), under[kind][as] ? 9 - kind : KIND);
                if (!under[kind][as]) refused++;
            }
        }
        Due.is("told(5)", x.told(5), refused);
        Due.is("as(0, 7)", x.as(0, 7), BEYOND);
        Due.is("as(0, -1)", x.as(0, -1), BEYOND);
        Due.is("as(1, 0)", x.as(1, 0), BEYOND);
        Due.is("as(-1, 0)", x.as(-1, 0), BEYOND);
    }

    private static void promise9() {
        LagoonOpera x = new LagoonOpera();
        x.boat(0, Due.cell(2, 3));
        Due.is("lag to itself", x.lag(0, Due.cell(2, 3)), 0);
        Due.is("FAR by columns 4", x.lag(0, Due.cell(4, 7)), 2);
        Due.is("FAR by rows 5, cut", x.lag(0, Due.cell(7, 1)), 2);
        int[] more = {0, 0, 0, 1, 1, 1, 2, 2, 2, 3};
        for (int m = 0; m <= 9; m++) {
            for (int kind = 0; kind < 7; kind++) {
                x.become(0, 10 * kind + m);
                int due = 2 + (kind == 4 ? m : kind == 5 ? more[m] : 0);
                Due.is("lag of KIND " + kind + ", m " + m, x.lag(0, Due.cell(4, 7)), due);
            }
        }
        x.become(0, 0);
        Due.text(x, 0, "t*10+d*s");
        Due.is("LAGS by a TEXT, BEAT 0", x.lag(0, Due.cell(2, 5)), 4);
        x.beats(3);
        Due.is("LAGS by a TEXT, BEAT 3", x.lag(0, Due.cell(2, 5)), 34);
        x.speed(5);
        Due.is("LAGS by a TEXT, SPEED 5", x.lag(0, Due.cell(2, 5)), 40);
        x.beats(32);
        Due.is("LAGS by BEAT of THE PIECE", x.lag(0, Due.cell(2, 5)), 40);
        lagsOfAll();
        x.become(0, 49);
        x.beats(7);
        Due.is("what LAGS gives is held, then more", x.lag(0, 2), 99 + 9);
        Due.text(x, 0, "0-7");
        Due.is("held from below", x.lag(0, 2), 9);
        Due.is("lag(0, 64)", x.lag(0, 64), BEYOND);
        Due.is("lag(0, -1)", x.lag(0, -1), BEYOND);
        Due.is("lag(1, 0)", x.lag(1, 0), BEYOND);
        Due.is("lag(-1, 0)", x.lag(-1, 0), BEYOND);
    }

    /** What LAGS gives by all FARS and SPEEDS in some BEATS of THE PIECE, and in the last one. */
    private static void lagsOfAll() {
        LagoonOpera x = new LagoonOpera();
        x.boat(10, 0);
        Due.text(x, 0, "(d*11+s*13+t*17)%97");
        int[] beats = {0, 1, 2, 3, 31};
        for (int t : beats) {
            Edge.goTo(x, t);
            for (int v = 1; v <= 9; v++) {
                x.speed(v);
                for (int far = 0; far < 8; far++) Due.is("lag by all", x.lag(0, 9 * far), (far * 11 + v * 13 + t * 17) % 97);
            }
        }
    }

    /** When it is TOGETHER. */
    private static void promise9Together() {
        LagoonOpera x = new LagoonOpera();
        x.speed(1);
        x.listener(Due.cell(0, 3));
        Due.boat(x, 0, Due.cell(0, 0), ALL);
        Due.is("one alone", x.ofListener(0, 3), 0);
        Due.boat(x, 0, Due.cell(0, 6), ALL);
        Due.is("two as far", x.ofListener(0, 3), 1);
        Due.boat(x, 0, Due.cell(0, 5), 0);
        Due.is("the third doesn't sing", x.ofListener(0, 3), 1);
        x.change(2, 3, 1);
        Due.is("the third sings nearer", x.ofListener(0, 3), 0);
        x.become(2, 41);
        Due.is("the third echoes by 1", x.ofListener(0, 3), 1);
        x.become(2, 53);
        Due.is("the third is late by 1", x.ofListener(0, 3), 1);
        x.become(2, 56);
        Due.is("the third is late by 2", x.ofListener(0, 3), 0);
        x.beats(1);
        Due.is("the third sings only in BEAT 0", x.ofListener(0, 3), 1);
        x.change(0, 3, 0);
        x.change(1, 3, 0);
        Due.is("none sings", x.ofListener(0, 3), 0);
    }

    private static void promise10() {
        LagoonOpera x = new LagoonOpera();
        Due.is("listener(-1)", x.listener(-1), BEYOND);
        Due.is("listener(64)", x.listener(64), BEYOND);
        for (int i = 0; i < 6; i++) Due.is("listener " + i, x.listener(63 - i), i);
        Due.is("listener(0), a seventh", x.listener(0), FULL);
        Due.is("listener(64), a seventh", x.listener(64), BEYOND);
        Due.is("count(2)", x.count(2), 6);
        for (int i = 0; i < 6; i++) Due.is("CELL of " + i, x.ofListener(i, 0), 63 - i);
        Due.is("count(5)", x.count(5), 300);
        Due.is("told(4)", x.told(4), 1);
    }

    private static void promise11() {
        LagoonOpera x = new LagoonOpera();
        x.listener(9);
        int[] due = {9, 0, 50, 0};
        for (int what = 0; what < 4; what++) Due.is("ofListener(0, " + what + ")", x.ofListener(0, what), due[what]);
        Due.boat(x, 10, 9, ALL);
        Due.boat(x, 10, 9, Due.bit(0) | Due.bit(2));
        Due.is("TOGETHER now", x.ofListener(0, 3), 1);
        x.beats(2);
        Due.is("IN TIME", x.ofListener(0, 1), 1);
        Due.is("COINS", x.ofListener(0, 2), 49);
        Due.is("TOGETHER in BEAT 2", x.ofListener(0, 3), 1);
        Due.is("ofListener(0, 4)", x.ofListener(0, 4), BEYOND);
        Due.is("ofListener(0, -1)", x.ofListener(0, -1), BEYOND);
        Due.is("ofListener(1, 0)", x.ofListener(1, 0), BEYOND);
        Due.is("ofListener(-1, 0)", x.ofListener(-1, 0), BEYOND);
        Due.is("ofListener(6, 0)", x.ofListener(6, 0), BEYOND);
    }

    private static void promise12() {
        LagoonOpera x = new LagoonOpera();
        x.listener(9);
        x.listener(10);
        Due.is("row(0, 63)", x.row(0, 63), 9);
        Due.is("row(0, 0)", x.row(0, 0), 63);
        Due.is("row(0, 64)", x.row(0, 64), BEYOND);
        Due.is("row(0, -1)", x.row(0, -1), BEYOND);
        Due.is("row(2, 0)", x.row(2, 0), BEYOND);
        Due.is("row(-1, 0)", x.row(-1, 0), BEYOND);
        Due.is("CELL", x.ofListener(0, 0), 0);
        Due.is("CELL of the other one", x.ofListener(1, 0), 10);
    }

    // ---- texts

    private static void promise13() {
        LagoonOpera x = new LagoonOpera();
        Due.is("feed(0, 0)", x.feed(0, 0), BEYOND);
        Due.is("feed(0, 9)", x.feed(0, 9), BEYOND);
        Due.is("feed(0, LEAST)", x.feed(0, LEAST), BEYOND);
        for (int i = 1; i <= 6; i++) Due.is("feed(.., 8)", x.feed(0, 8), 8 * i);
        Due.is("feed(0, 3), 51 in all", x.feed(0, 3), FULL);
        Due.is("feed(0, 9), full", x.feed(0, 9), BEYOND);
        Due.is("count(7)", x.count(7), 48);
        Due.is("feed(0, 2), 50 in all", x.feed(0, 2), 50);
        Due.is("feed(0, 1), 51 in all", x.feed(0, 1), FULL);
        Due.is("text(0) of zeros", x.text(0), -10);
        Due.is("count(7) behind text", x.count(7), 0);
        Due.is("the n lowest bytes alone", x.feed(0x4141413373L, 1), 1);
        Due.is("the lowest first", x.feed(0x3533322bL, 4), 5);
        Due.is("text(0) s+235", x.text(0), 1);
        Due.is("s+235 held", x.law(0, 0, -200, 0), 35);
        Due.is("all eight, the sign too", x.feed(0xb12b732b732b732bL, 8), 8);
        Due.is("its FAULT", x.text(0), -10);
        x.feed(0x73, 1);
        x.feed(0xb12b732b732b732bL, 8);
        Due.is("a byte above 127 is a FAULT", x.text(0), -10 - 8);
    }

    private static void promise14() {
        LagoonOpera x = new LagoonOpera();
        Due.is("an empty TAPE", x.text(0), -10);
        Due.is("d+1", Due.text(x, 0, "d+1"), 1);
        Due.is("what it gives", x.law(0, 5, 2, 0), 6);
        Due.is("a FAULT", Due.text(x, 0, "d+"), -12);
        Due.is("the one ahead stays", x.law(0, 5, 2, 0), 6);
        Due.is("THE TAPE is empty", x.count(7), 0);
        Due.feed(x, "n");
        Due.is("text(2)", x.text(2), BEYOND);
        Due.is("text(-1)", x.text(-1), BEYOND);
        Due.is("THE TAPE stays", x.count(7), 1);
        Due.is("n is no NAME of LAGS", x.text(0), -10);
        Due.is("n of PAYS", Due.text(x, 1, "n"), 1);
        Due.is("what PAYS gives", x.law(1, 42, 1, 0), 42);
        Due.is("LAGS stays", x.law(0, 5, 2, 0), 6);
        Due.is("in place of the one ahead", Due.text(x, 0, "s"), 1);
        Due.is("what it gives", x.law(0, 5, 2, 0), 2);
        Due.is("d is no NAME of PAYS", Due.text(x, 1, "1+d"), -12);
        Due.is("s is no NAME of PAYS", Due.text(x, 1, "s"), -10);
        Due.is("i is no NAME of LAGS", Due.text(x, 0, "i"), -10);
        Due.is("i, t of PAYS", Due.text(x, 1, "i*t"), 1);
        Due.is("s, t of LAGS", Due.text(x, 0, "s*t"), 1);
        Due.is("i * t", x.law(1, 100, 3, 4), 12);
        Due.is("s * t", x.law(0, 100, 5, 6), 30);
        Due.is("a FAULT is no ERROR", x.told(1), 2);
    }

    private static void promise14Faults() {
        LagoonOpera x = new LagoonOpera();
        int none = -1;
        Object[][] faults = {
            {"1234", none}, {"12345", 4}, {"0000", none}, {"00001", 4}, {"1d", 1}, {"d1", 1}, {"dd", 1}, {"D", 0},
            {"d<d", none}, {"d<d<d", 3}, {"d<d=d", 3}, {"d>d>d", 3}, {"(d<d)<d", none}, {"d<(d>d)=d", 7}, {"d<d|d<d", none},
            {"d<d&d=d", none}, {"!!!!!d", none}, {"!!!!!!d", 5}, {"(((((d)))))", none}, {"((((((d))))))", 5},
            {"!(!(!(d)))", 5}, {"!(!(!d))", none}, {"!!!!(d)", none}, {"!!!!!(d)", 5}, {"!d+!d+!d+!d+!d+!d", none},
            {"(d)+(d)+(d)+(d)+(d)+(d)", none}, {"!d*(!(!(!(!d))))", 8}, {"()", 1}, {"(d", 2}, {"d)", 1}, {"(d))", 3},
            {"d d", 1}, {" d", 0}, {"d ", 1}, {"+d", 0}, {"-1", 0}, {"d-1", none}, {"d++d", 2}, {"d*/d", 2}, {"d!", 1},
            {"d!d", 1}, {"d|", 2}, {"d&", 2}, {"d*", 2}, {"d+", 2}, {"d<", 2}, {"!!!!!", 5}, {"(((((", 5}, {"|d", 0}, {"d&&d", 2}, {"d=", 2}, {"d==d", 2}, {"d<>d", 2}, {"!", 1}, {"!)", 1}, {"(", 1},
            {"(d+1)(d)", 5}, {"d(", 1}, {"1+2*3%4/5-6", none}, {"(d+", 3}, {"(d<d<", 4}, {"(12345)", 5}, {"!12345", 5},
        };
        for (Object[] pair : faults) {
            int fault = (Integer) pair[1];
            Due.is("text " + pair[0], Due.text(x, 0, (String) pair[0]), fault == none ? 1 : -10 - fault);
        }
    }

    private static void promise14Longest() {
        LagoonOpera x = new LagoonOpera();
        StringBuilder sum = new StringBuilder("11");
        for (int i = 0; i < 24; i++) sum.append("+1");
        Due.is("50 bytes", Due.feed(x, sum.toString()), 50);
        Due.is("50 bytes are read", x.text(0), 1);
        Due.is("what they give", x.law(0, 0, 0, 0), 35);
        String half = sum.substring(1) + "+";
        Due.is("50 bytes that end too early", Due.text(x, 0, half), -60);
        StringBuilder right = new StringBuilder();
        for (int i = 0; i < 5; i++) right.append("1-(");
        right.append("d|d&d<d+d*!s");
        for (int i = 0; i < 4; i++) right.append(")");
        Due.is("five open, ! in them", Due.text(x, 0, right.toString()), -10 - 25);
        Due.is("all levels", Due.text(x, 0, "0|1&2<3+4*!s"), 1);
        Due.is("what it gives", x.law(0, 0, 0, 0), 1);
    }

    private static void promise15() {
        LagoonOpera x = new LagoonOpera();
        Due.is("without a TEXT: cut", x.law(0, 7, 2, 9), 3);
        Due.is("without a TEXT: by 0", x.law(0, 7, 0, 9), 0);
        Due.is("without a TEXT: least by -1", x.law(0, LEAST, -1, 0), 0);
        Due.is("PAYS without a TEXT", x.law(1, 9, 1, 9), 1);
        Due.is("PAYS without a TEXT", x.law(1, 9, 0, 9), 0);
        Due.text(x, 0, "d*100+s*10+t");
        Due.is("NAMES in order", x.law(0, 0, 3, 4), 34);
        Due.is("held within 99", x.law(0, 1, 0, 0), 99);
        Due.is("held within 0", x.law(0, -1, 0, 0), 0);
        Due.is("99", x.law(0, 0, 9, 9), 99);
        Due.text(x, 1, "n*100+i*10+t");
        Due.is("NAMES in order", x.law(1, 0, 3, 4), 34);
        Due.is("held within 99", x.law(1, 0, 10, 0), 99);
        Due.is("held within 0", x.law(1, 0, 0, -1), 0);
        Due.is("law(2, ..)", x.law(2, 1, 1, 1), BEYOND);
        Due.is("law(-1, ..)", x.law(-1, 1, 1, 1), BEYOND);
    }

    private static void promise15Signs() {
        LagoonOpera x = new LagoonOpera();
        Object[][] due = {
            {"1+2*3", 7}, {"(1+2)*3", 9}, {"9-3-2", 4}, {"9-(3-2)", 8}, {"60/5/3", 4}, {"60/(5/3)", 60},
            {"7%4*2", 6}, {"2*7%4", 2}, {"1+(0-7)/2+3", 1}, {"1+(0-7)%4+3", 1}, {"5/0+1", 1}, {"5%0+1", 1},
            {"!5", 0}, {"!0", 1}, {"!!7", 1}, {"!0+1", 2}, {"!(0+1)", 0}, {"!0*5", 5}, {"2<3", 1}, {"3<3", 0}, {"3=3", 1},
            {"2=3", 0}, {"3>2", 1}, {"3>3", 0}, {"1+1<3", 1}, {"5&7", 1}, {"5&0", 0}, {"0|7", 1}, {"0|0", 0},
            {"(0-5)|0", 1}, {"1|0&0", 1}, {"(1|0)&0", 0}, {"0&0|1", 1}, {"1&2=2", 1}, {"0=0|1", 1}, {"(2>1)+(2>1)", 2},
            {"9999*9999*9999<0", 1}, {"9999*9999*20<0", 0}, {"9999*9999*30<0", 1}, {"(5|1)*9", 9}, {"0099", 99},
        };
        for (Object[] pair : due) {
            Due.is((String) pair[0], Due.text(x, 0, (String) pair[0]), 1);
            Due.is((String) pair[0], x.law(0, 0, 0, 0), (Integer) pair[1]);
        }
        Due.text(x, 0, "(d/s<0)*10+(d%s=0)");
        Due.is("least by -1 wraps", x.law(0, LEAST, -1, 0), 11);
    }

    // ---- beats

    private static void promise16() {
        LagoonOpera x = new LagoonOpera();
        Due.is("beats(0)", x.beats(0), BEYOND);
        Due.is("beats(129)", x.beats(129), BEYOND);
        Due.is("beats(-1)", x.beats(-1), BEYOND);
        Due.is("beats(MOST)", x.beats(MOST), BEYOND);
        Due.is("count(0)", x.count(0), 0);
        for (int i = 0; i < 78; i++) x.beats(128);
        Due.is("count(0)", x.count(0), 9984);
        Due.is("beats(16)", x.beats(16), STATE);
        Due.is("beats(128)", x.beats(128), STATE);
        Due.is("beats(129), too late", x.beats(129), BEYOND);
        Due.is("beats(15)", x.beats(15), 0);
        Due.is("count(0)", x.count(0), 9999);
        Due.is("beats(1)", x.beats(1), STATE);
        Due.is("loose(1)", x.loose(1), STATE);
        Due.is("loose(0)", x.loose(0), BEYOND);
        Due.is("told(3)", x.told(3), 4);
    }

    private static void promise16Pays() {
        LagoonOpera x = new LagoonOpera();
        x.speed(1);
        x.listener(0);
        x.listener(1);
        Due.boat(x, 20, 0, Due.bit(0) | Due.bit(1) | Due.bit(2));
        Due.boat(x, 10, 0, Due.bit(0) | Due.bit(1));
        x.tide(0, 2);
        Due.is("beats(1): all pay i", x.beats(1), 2);
        Due.is("IN TIME of 0", x.ofListener(0, 1), 1);
        Due.is("IN TIME of 1", x.ofListener(1, 1), 1);
        Due.is("LISTENERS hear ahead of MOVES", x.ofBoat(0, 2), 1);
        Due.is("beats(1): unlike LAGS", x.beats(1), 2);
        Due.is("BOAT MOVES", x.ofBoat(0, 2), 2);
        Due.text(x, 1, "n*10+i*5+t");
        Due.is("beats(1): one sings, BEAT 2", x.beats(1), 2 + 12 + 12);
        Due.is("COINS of 0", x.ofListener(0, 2), 37);
        Due.text(x, 1, "99");
        Due.is("as far as COINS go", x.beats(1), 100);
        Due.is("COINS of 0", x.ofListener(0, 2), 0);
        Due.is("nothing is left", x.beats(128), 100);
        Due.is("count(5)", x.count(5), 0);
        Due.is("count(4)", x.count(4), 100);
    }

    private static void promise17() {
        LagoonOpera x = new LagoonOpera();
        Due.is("loose(0)", x.loose(0), BEYOND);
        Due.is("loose(129)", x.loose(129), BEYOND);
        Due.boat(x, 20, 0, ALL);
        Due.boat(x, 10, 0, ALL);
        Due.boat(x, 10, 63, 0);
        x.listener(0);
        x.tide(0, 2);
        Due.text(x, 1, "n*10");
        int z = 1;
        int paid = 0;
        int inTime = 0;
        for (int t = 0; t < 4; t++) {
            int heard = 0;
            for (int boat = 0; boat < 2; boat++) {
                z = z * 1103515245 + 12345;
                if ((z >>> 8) % 6 != 0) heard++;
            }
            if (heard == 2 && t < 2) inTime++;
            paid = Math.min(50, paid + 10 * heard);
            Due.is("loose(1)", x.loose(1), paid);
            Due.is("a draw for each BOAT that sings", x.count(10), z);
            Due.is("BOATS MOVE as else", x.ofBoat(0, 2), t + 1);
            Due.is("IN TIME", x.ofListener(0, 1), inTime);
        }
        looseLost();
    }

    /** The least z of which the first draw is lost, and the first of which the second one is. */
    private static void looseLost() {
        for (int lost = 0; lost < 3; lost++) {
            int z = 0;
            while (lostOf(z) != lost) z++;
            LagoonOpera x = new LagoonOpera();
            for (int boat = 0; boat < 2; boat++) Due.boat(x, 60 + boat, 0, ALL);
            x.listener(0);
            Due.tides(x, 2);
            x.beats(1);
            Due.text(x, 1, "n*10+i");
            x.seed(z);
            Due.is("loose(1), lost " + lost, x.loose(1), lost == 0 ? 1 + 21 : 1 + 10 * (2 - lost));
            Due.is("IN TIME, lost " + lost, x.ofListener(0, 1), lost == 0 ? 2 : 1);
            Due.is("ROWED MOVES, lost " + lost, x.ofBoat(0, 2), 1);
            Due.is("ROWED MOVES, lost " + lost, x.ofBoat(1, 2), 1);
        }
        LagoonOpera x = new LagoonOpera();
        Due.boat(x, 10, 0, ALL);
        x.loose(1);
        Due.is("a draw without LISTENERS", x.count(10), 1103515245 + 12345);
        x.beats(5);
        Due.is("no draw in a BEAT", x.count(10), 1103515245 + 12345);
    }

    private static int lostOf(int seed) {
        int z = seed;
        int lost = 0;
        for (int boat = 0; boat < 2; boat++) {
            z = z * 1103515245 + 12345;
            if ((z >>> 8) % 6 == 0) lost++;
        }
        return lost;
    }

    private static void promise18() {
        LagoonOpera x = new LagoonOpera();
        x.boat(20, 0);
        x.tide(3, 2);
        Due.is("then(0, 0)", x.then(0, 0), 0);
        Due.is("then(24, 0)", x.then(24, 0), 0);
        Due.is("then(27, 0)", x.then(27, 0), 3);
        Due.is("then(128, 0)", x.then(128, 0), 7);
        Due.is("then(-1, 0)", x.then(-1, 0), BEYOND);
        Due.is("then(129, 0)", x.then(129, 0), BEYOND);
        Due.is("then(0, 1)", x.then(0, 1), BEYOND);
        Due.is("then(0, -1)", x.then(0, -1), BEYOND);
        Due.is("nothing went by", x.count(0), 0);
        Due.is("nothing went by", x.ofBoat(0, 2), 0);
        for (int i = 0; i < 78; i++) x.beats(128);
        x.beats(15);
        x.change(0, 2, 0);
        Due.is("beyond BEAT 9999", x.then(128, 0), 7);
        Due.is("BEAT 9999 is 15 of THE PIECE", x.then(10, 0), 1);
    }

    private static void promise19() {
        LagoonOpera x = new LagoonOpera();
        x.listener(3);
        Due.boat(x, 10, 3, Due.bit(0) | Due.bit(5));
        Due.boat(x, 10, 3, Due.bit(0) | Due.bit(5));
        Due.is("CELL", x.thenListener(9, 0, 0), 3);
        int[] inTime = {0, 1, 1, 1, 1, 1, 2, 2};
        int[] together = {1, 0, 0, 0, 0, 1, 0, 0};
        for (int n = 0; n < 8; n++) {
            Due.is("IN TIME behind " + n, x.thenListener(n, 0, 1), inTime[n]);
            Due.is("COINS behind " + n, x.thenListener(n, 0, 2), 50 - inTime[n]);
            Due.is("TOGETHER behind " + n, x.thenListener(n, 0, 3), together[n]);
        }
        Due.is("thenListener(128, 0, 1)", x.thenListener(128, 0, 1), 8);
        Due.is("nothing went by", x.ofListener(0, 1), 0);
        Due.is("nothing went by", x.count(4), 0);
        Due.is("thenListener(-1, 0, 0)", x.thenListener(-1, 0, 0), BEYOND);
        Due.is("thenListener(129, 0, 0)", x.thenListener(129, 0, 0), BEYOND);
        Due.is("thenListener(0, 1, 0)", x.thenListener(0, 1, 0), BEYOND);
        Due.is("thenListener(0, -1, 0)", x.thenListener(0, -1, 0), BEYOND);
        Due.is("thenListener(0, 0, 4)", x.thenListener(0, 0, 4), BEYOND);
        Due.is("thenListener(0, 0, -1)", x.thenListener(0, 0, -1), BEYOND);
        inTimeAtMost();
    }

    private static void inTimeAtMost() {
        LagoonOpera x = new LagoonOpera();
        x.listener(3);
        Due.boat(x, 10, 3, ALL);
        Due.boat(x, 10, 3, ALL);
        for (int i = 0; i < 78; i++) x.beats(128);
        x.beats(15);
        Due.is("IN TIME at most", x.ofListener(0, 1), 9999);
        Due.is("AHEAD, too", x.thenListener(128, 0, 1), 9999);
        x.tell(9999);
        x.tell(9999);
        Due.is("by check, too", x.check(0), 0);
    }

    // ---- what is in time

    private static LagoonOpera twoBoats() {
        LagoonOpera x = new LagoonOpera();
        x.speed(1);
        Due.boat(x, 10, Due.cell(3, 1), ALL);
        Due.boat(x, 20, Due.cell(3, 3), ALL);
        x.tide(0, 2);
        return x;
    }

    private static void promise20() {
        LagoonOpera x = twoBoats();
        Due.is("score, as far from both", x.score(Due.cell(3, 2), 1), 1);
        Due.is("score, none", x.score(Due.cell(3, 2), 0), 0);
        Due.is("score, then it drifts", x.score(Due.cell(3, 2), 3), 1);
        Due.is("score of a CELL two on", x.score(Due.cell(3, 3), 8), 1);
        Due.is("score at the border", x.score(Due.cell(3, 4), 10), 6);
        Due.is("score by 128", x.score(Due.cell(3, 4), 128), 124);
        x.beats(3);
        Due.is("score from now on", x.score(Due.cell(3, 4), 7), 6);
        scoreByTheBeat();
        Due.is("score(-1, 1)", x.score(-1, 1), BEYOND);
        Due.is("score(64, 1)", x.score(64, 1), BEYOND);
        Due.is("score(0, -1)", x.score(0, -1), BEYOND);
        Due.is("score(0, 129)", x.score(0, 129), BEYOND);
    }

    /** LAGS by a TEXT with t: TOGETHER only in BEATS that leave 3 by 8. */
    private static void scoreByTheBeat() {
        LagoonOpera x = new LagoonOpera();
        Due.boat(x, 10, 0, ALL);
        Due.boat(x, 10, 7, ALL);
        Due.text(x, 0, "d*!(t%8=3)");
        Due.is("in BEATS 3, 11, 19, 27", x.score(0, 32), 4);
        Due.is("ahead of BEAT 3", x.score(0, 3), 0);
        Due.is("with BEAT 3", x.score(0, 4), 1);
        x.beats(4);
        Due.is("from BEAT 4 on", x.score(0, 7), 0);
        Due.is("from BEAT 4 on", x.score(0, 8), 1);
    }

    private static void promise21() {
        LagoonOpera x = twoBoats();
        Due.is("place(0)", x.place(0), 0);
        Due.is("place(1), 3 from both", x.place(1), 0);
        Due.is("place(128)", x.place(128), bestOf(x, 128));
        x.row(x.listener(0), x.place(12));
        Due.is("place(12)", x.ofListener(0, 0), bestOf(x, 12));
        Due.is("place(-1)", x.place(-1), BEYOND);
        Due.is("place(129)", x.place(129), BEYOND);
        LagoonOpera y = new LagoonOpera();
        y.speed(1);
        Due.boat(y, 10, 63, ALL);
        Due.boat(y, 42, 63, ALL);
        Due.is("none is better than another", y.place(9), 0);
        y.become(1, 41);
        y.change(1, 2, 62);
        Due.is("7 from the one, 6 from the other", y.place(9), Due.cell(1, 0));
    }

    private static int bestOf(LagoonOpera x, int n) {
        int best = 0;
        for (int cell = 0; cell < 64; cell++) {
            if (x.score(cell, n) > x.score(best, n)) best = cell;
        }
        return best;
    }

    private static void promise22() {
        LagoonOpera x = twoBoats();
        Due.is("fromHere(0)", x.fromHere(0), -1L);
        int[] ns = {1, 2, 9, 128};
        for (int n : ns) {
            int most = x.score(bestOf(x, n), n);
            long cells = 0;
            for (int cell = 0; cell < 64; cell++) {
                if (x.score(cell, n) == most) cells |= 1L << cell;
            }
            Due.is("fromHere(" + n + ")", x.fromHere(n), cells);
        }
        Due.is("fromHere(-1)", x.fromHere(-1), BEYOND);
        Due.is("fromHere(129)", x.fromHere(129), BEYOND);
        Due.is("told(1)", x.told(1), 2);
    }

    private static void promise23() {
        LagoonOpera x = twoBoats();
        int best = 0;
        int most = -1;
        for (int from = 0; from < 64; from++) {
            x.change(1, 2, from);
            int score = x.score(Due.cell(5, 5), 40);
            if (score > most) {
                most = score;
                best = from;
            }
        }
        x.change(1, 2, Due.cell(3, 3));
        Due.is("mooring(1, .., 40)", x.mooring(1, Due.cell(5, 5), 40), best);
        Due.is("CELL stays", x.ofBoat(1, 2), Due.cell(3, 3));
        Due.is("score stays", x.score(Due.cell(3, 4), 128), 124);
        Due.is("mooring by 0", x.mooring(1, 5, 0), 0);
        Due.is("mooring of a BARGE for its CELL", x.mooring(0, Due.cell(3, 3), 1), Due.cell(3, 3));
        mooringAtTheEnds();
        Due.is("mooring(2, 0, 1)", x.mooring(2, 0, 1), BEYOND);
        Due.is("mooring(-1, 0, 1)", x.mooring(-1, 0, 1), BEYOND);
        Due.is("mooring(0, 64, 1)", x.mooring(0, 64, 1), BEYOND);
        Due.is("mooring(0, -1, 1)", x.mooring(0, -1, 1), BEYOND);
        Due.is("mooring(0, 0, 129)", x.mooring(0, 0, 129), BEYOND);
        Due.is("mooring(0, 0, -1)", x.mooring(0, 0, -1), BEYOND);
    }

    private static void mooringAtTheEnds() {
        int[] ends = {63, 0};
        LagoonOpera x = new LagoonOpera();
        x.speed(1);
        Due.boat(x, 10, 0, ALL);
        Due.boat(x, 10, 0, ALL);
        Due.is("CELL 0 has most", x.place(128), 0);
        for (int end : ends) {
            x.change(0, 2, end);
            Due.is("mooring in CELL " + end, x.mooring(1, end, 1), end);
        }
    }

    private static void promise24() {
        LagoonOpera x = new LagoonOpera();
        Due.boat(x, 10, 0, Due.bit(3) | Due.bit(30));
        Due.boat(x, 10, 0, Due.bit(7) | Due.bit(2));
        Due.is("by 4, both", x.sooner(1, 0, 32), 4);
        Due.is("going round", x.sooner(0, 0, 32), 28);
        Due.is("in the first BEATS alone", x.sooner(1, 0, 3), 0);
        Due.is("by 4 in 4 BEATS", x.sooner(1, 0, 4), 4);
        Due.is("by 0", x.sooner(1, 0, 0), 0);
        Due.is("PART stays", x.ofBoat(1, 3), Due.bit(7) | Due.bit(2));
        x.change(1, 3, Due.bit(2) | Due.bit(29));
        Due.is("by 31", x.sooner(1, 0, 32), 31);
        x.change(1, 3, Due.bit(7) | Due.bit(2));
        Due.is("sooner(2, 0, 1)", x.sooner(2, 0, 1), BEYOND);
        Due.is("sooner(-1, 0, 1)", x.sooner(-1, 0, 1), BEYOND);
        Due.is("sooner(0, 64, 1)", x.sooner(0, 64, 1), BEYOND);
        Due.is("sooner(0, -1, 1)", x.sooner(0, -1, 1), BEYOND);
        Due.is("sooner(0, 0, 129)", x.sooner(0, 0, 129), BEYOND);
        Due.is("sooner(0, 0, -1)", x.sooner(0, 0, -1), BEYOND);
        soonerRowed();
    }

    /** A ROWED one MOVES where it sings, so that its PART moves it, too. */
    private static void soonerRowed() {
        LagoonOpera x = new LagoonOpera();
        x.speed(1);
        Due.tides(x, 2);
        Due.boat(x, 10, 9, ALL);
        Due.boat(x, 69, 8, Due.bit(3) | Due.bit(9));
        int best = 0;
        int most = -1;
        int part = x.ofBoat(1, 3);
        for (int by = 0; by < 32; by++) {
            x.change(1, 3, (part >>> by) | (by == 0 ? 0 : part << (32 - by)));
            int score = x.score(10, 64);
            if (score > most) {
                most = score;
                best = by;
            }
        }
        x.change(1, 3, part);
        Due.is("sooner of a ROWED one", x.sooner(1, 10, 64), best);
    }

    private static void promise25() {
        LagoonOpera x = new LagoonOpera();
        Due.boat(x, 10, Due.cell(0, 0), ALL);
        Due.boat(x, 10, Due.cell(0, 7), ALL);
        Due.is("7 and 0 are one by 8", x.fitSpeed(0, 5), 8);
        Due.is("4 and 3 are one by 3", x.fitSpeed(Due.cell(0, 4), 5), 3);
        Due.is("by 0", x.fitSpeed(0, 0), 1);
        Due.is("SPEED stays", x.count(6), 2);
        Due.text(x, 0, "d*(s<9)");
        Due.is("by a TEXT", x.fitSpeed(0, 1), 9);
        Due.text(x, 0, "s");
        Due.is("all are one", x.fitSpeed(0, 1), 1);
        Due.is("fitSpeed(64, 1)", x.fitSpeed(64, 1), BEYOND);
        Due.is("fitSpeed(-1, 1)", x.fitSpeed(-1, 1), BEYOND);
        Due.is("fitSpeed(0, -1)", x.fitSpeed(0, -1), BEYOND);
        Due.is("fitSpeed(0, 129)", x.fitSpeed(0, 129), BEYOND);
    }

    private static int three(int one, int two, int other) {
        return 4096 * one + 64 * two + other;
    }

    private static void promise26() {
        LagoonOpera x = new LagoonOpera();
        x.speed(1);
        int corners = three(Due.cell(0, 0), Due.cell(0, 7), Due.cell(7, 0));
        Due.is("3, 4, 7 behind: columns 3, row 0 or more", x.fromWhere(corners, 30407), 1);
        Due.is("1 behind all, at one place", x.fromWhere(three(9, 9, 9), 10101), 8);
        Due.is("7 behind all", x.fromWhere(corners, 70707), 1);
        Due.is("0, 7, 7 behind", x.fromWhere(corners, 707), 1);
        Due.is("0, 0, 0 behind", x.fromWhere(corners, 0), 0);
        Due.is("99 behind", x.fromWhere(corners, 999999), 0);
        x.speed(9);
        Due.is("0 behind all, by SPEED 9", x.fromWhere(corners, 0), 64);
        x.boat(49, 0);
        Due.is("by LAGS alone", x.fromWhere(corners, 0), 64);
        Due.text(x, 0, "t+50");
        Due.is("by a TEXT", x.fromWhere(corners, 505050), 64);
        x.beats(1);
        Due.is("of this BEAT", x.fromWhere(corners, 505050), 0);
        Due.is("of this BEAT", x.fromWhere(corners, 515151), 64);
        Due.text(x, 0, "d*12");
        Due.is("LAG 12 from the one", x.fromWhere(three(1, 0, 0), 120000), 1);
        Due.is("LAG 12 from the second", x.fromWhere(three(0, 1, 0), 1200), 1);
        Due.is("LAG 12 from the third", x.fromWhere(three(0, 0, 1), 12), 1);
        Due.is("the one is 63", x.fromWhere(three(63, 0, 0), 840000), 1);
        Due.is("the others are 63", x.fromWhere(three(0, 63, 63), 840000), 1);
        Due.is("all are 0", x.fromWhere(0, 0), 1);
        Due.is("all are 63", x.fromWhere(262143, 0), 1);
        Due.text(x, 0, "99");
        Due.is("LAGS 99", x.fromWhere(corners, 999999), 64);
        Due.text(x, 0, "1");
        Due.is("fromWhere(-1, 0)", x.fromWhere(-1, 0), BEYOND);
        Due.is("fromWhere(262143, 0)", x.fromWhere(262143, 0), 0);
        Due.is("fromWhere(262144, 0)", x.fromWhere(262144, 0), BEYOND);
        Due.is("fromWhere(0, -1)", x.fromWhere(0, -1), BEYOND);
        Due.is("fromWhere(0, 1000000)", x.fromWhere(0, 1000000), BEYOND);
    }

    private static void promise27() {
        LagoonOpera x = new LagoonOpera();
        x.speed(1);
        int one = three(9, 9, 9);
        int[] due = {0, 1, 2, 8, 10, 16, 17, 18};
        for (int i = 0; i < 8; i++) Due.is("CELLS in order", x.whereFrom(one, 10101, i), due[i]);
        Due.is("none behind the last", x.whereFrom(one, 10101, 8), NONE);
        Due.is("none by MOST", x.whereFrom(one, 10101, MOST), NONE);
        Due.is("i -1", x.whereFrom(one, 10101, -1), BEYOND);
        Due.is("CELLS, i beyond", x.whereFrom(262144, 0, 99), BEYOND);
        Due.is("CELLS -1", x.whereFrom(-1, 0, 0), BEYOND);
        Due.is("LAGS beyond", x.whereFrom(0, 1000000, 0), BEYOND);
        Due.is("LAGS -1", x.whereFrom(0, -1, 0), BEYOND);
        x.speed(9);
        Due.is("CELL 63", x.whereFrom(one, 0, 63), 63);
        Due.is("no 64th", x.whereFrom(one, 0, 64), NONE);
    }

    private static void promise28() {
        LagoonOpera x = new LagoonOpera();
        x.boat(0, 0);
        x.boat(10, 0);
        x.boat(20, 0);
        x.boat(32, Due.cell(6, 3));
        x.tide(0, 2);
        Due.is("a BOAT", x.strokes(0, 8), 4);
        Due.is("a BARGE", x.strokes(1, 128), 0);
        Due.is("a DRIFTER", x.strokes(2, 5), 5);
        Due.is("a DRIFTER at the border", x.strokes(2, 128), 7);
        Due.is("none", x.strokes(2, 0), 0);
        x.tide(0, 1);
        Due.is("north and south again are no stroke", x.strokes(3, 8), 3);
        Due.is("TOWED alone", x.strokes(3, 16), 4);
        x.beats(7);
        Due.is("from now on", x.strokes(3, 1), 0);
        Due.is("strokes(4, 1)", x.strokes(4, 1), BEYOND);
        Due.is("strokes(-1, 1)", x.strokes(-1, 1), BEYOND);
        Due.is("strokes(0, -1)", x.strokes(0, -1), BEYOND);
        Due.is("strokes(0, 129)", x.strokes(0, 129), BEYOND);
    }

    // ---- draws, voices

    private static void promise29() {
        LagoonOpera x = new LagoonOpera();
        Due.is("seed(BEYOND)", x.seed(BEYOND), 1);
        Due.is("seed(7), what it was is no ERROR", x.seed(7), BEYOND);
        Due.is("told(1)", x.told(1), 0);
        Due.is("count(10)", x.count(10), 7);
        Due.is("seed(LEAST)", x.seed(LEAST), 7);
        Due.is("seed(0)", x.seed(0), LEAST);
    }

    private static void promise30() {
        LagoonOpera x = new LagoonOpera();
        x.boat(0, 0);
        x.boat(9, 0);
        Due.is("BODY 10: x + n", x.voice(1, 0, 41), 42);
        Due.is("BODY 10 wraps", x.voice(1, 0, MOST), LEAST);
        Due.is("any number is no ERROR", x.voice(0, 0, BEYOND), BEYOND);
        Due.is("told(1)", x.told(1), 0);
        Due.is("voice(0, 4, 0)", x.voice(0, 4, 0), BEYOND);
        Due.is("voice(0, -1, 0)", x.voice(0, -1, 0), BEYOND);
        Due.is("voice(2, 0, 0)", x.voice(2, 0, 0), BEYOND);
        Due.is("voice(-1, 0, 0)", x.voice(-1, 0, 0), BEYOND);
        Due.is("told(1)", x.told(1), 4);
        Due.is("THE TRACE stays", x.trace(0), 10);
    }

    /** Each KIND, each act, the answers and THE TRACE worked out by hand: n is 1, x is 5. */
    private static void promise30Bodies() {
        LagoonOpera x = new LagoonOpera();
        x.boat(0, 0);
        x.boat(0, 0);
        // BOAT, m 3
        voiceIs(x, 3, 0, 6, 10);
        voiceIs(x, 3, 1, 12, 11, 10);
        voiceIs(x, 3, 2, 2, 12);
        voiceIs(x, 3, 3, 12 ^ 2, 13, 11, 10, 12);
        // BARGE, m 4
        voiceIs(x, 14, 0, 6, 10);
        voiceIs(x, 14, 1, 12 + 3, 20, 11, 10, 12);
        voiceIs(x, 14, 2, 1, 12);
        voiceIs(x, 14, 3, 15 ^ 1, 13, 20, 11, 10, 12, 12);
        // DRIFTER, m 2
        voiceIs(x, 22, 0, 18, 30, 10);
        voiceIs(x, 22, 1, 36, 11, 30, 10);
        voiceIs(x, 22, 2, 3, 12);
        voiceIs(x, 22, 3, 36 ^ 3, 13, 11, 30, 10, 12);
        // TOWED, m 7
        voiceIs(x, 37, 0, 6, 10);
        voiceIs(x, 37, 1, 12, 11, 10);
        voiceIs(x, 37, 2, 2, 40, 12);
        voiceIs(x, 37, 3, 12 ^ 2, 13, 11, 10, 40, 12);
        // ECHO, m 9
        voiceIs(x, 49, 0, 6, 10);
        voiceIs(x, 49, 1, 14 + 8, 50, 20, 11, 10, 12);
        voiceIs(x, 49, 2, -4, 12);
        voiceIs(x, 49, 3, 22 ^ -4, 13, 50, 20, 11, 10, 12, 12);
        // LATE, m 1
        voiceIs(x, 51, 0, 18, 30, 10);
        voiceIs(x, 51, 1, 36, 11, 30, 10);
        voiceIs(x, 51, 2, 4, 12);
        voiceIs(x, 51, 3, (36 ^ 4) - 9, 60, 13, 11, 30, 10, 12, 30, 10);
        // ROWED, m 8
        voiceIs(x, 68, 0, 6, 10);
        voiceIs(x, 68, 1, 12, 11, 10);
        voiceIs(x, 68, 2, 3 ^ 1, 70, 40, 12);
        voiceIs(x, 68, 3, 12 - (12 ^ 2), 71, 11, 10, 13, 11, 10, 70, 40, 12);
    }

    private static void voiceIs(LagoonOpera x, int km, int act, int due, int... trace) {
        String call = "voice of " + km + ", " + act;
        x.become(1, km);
        Due.is(call, x.voice(1, act, 5), due);
        Due.is(call + ", BODIES", x.count(9), trace.length);
        for (int i = 0; i < trace.length; i++) Due.is(call + ", trace(" + i + ")", x.trace(i), trace[i]);
        Due.is(call + ", behind it", x.trace(trace.length), NONE);
    }

    private static void promise31() {
        LagoonOpera x = new LagoonOpera();
        Due.is("trace(0) ahead of all", x.trace(0), NONE);
        x.boat(0, 0);
        x.voice(0, 3, 1);
        Due.is("trace(0)", x.trace(0), 13);
        Due.is("trace(3)", x.trace(3), 12);
        Due.is("trace(4)", x.trace(4), NONE);
        Due.is("trace(-1)", x.trace(-1), NONE);
        Due.is("trace(40)", x.trace(40), NONE);
        Due.is("trace(LEAST)", x.trace(LEAST), NONE);
        Due.is("trace(MOST)", x.trace(MOST), NONE);
        x.voice(0, 0, 1);
        Due.is("the latest alone", x.trace(1), NONE);
        Due.is("told(2)", x.told(2), 7);
    }

    // ---- sheets

    private static void promise32() {
        LagoonOpera x = new LagoonOpera();
        Due.is("sheet(-1, 8, 1)", x.sheet(-1, 8, 1), BEYOND);
        Due.is("sheet(4, 8, 1)", x.sheet(4, 8, 1), BEYOND);
        Due.is("sheet(4, 8, -1)", x.sheet(4, 8, -1), BEYOND);
        Due.is("sheet(0, 7, -1)", x.sheet(0, 7, -1), BEYOND);
        Due.is("sheet(0, 64, 1)", x.sheet(0, 64, 1), BEYOND);
        Due.is("sheet(0, -8, 1)", x.sheet(0, -8, 1), BEYOND);
        Due.is("sheet(0, 8, -1)", x.sheet(0, 8, -1), STATE);
        Due.is("sheet(0, 8, LEAST)", x.sheet(0, 8, LEAST), STATE);
        Due.is("sheet(0, 8, 41)", x.sheet(0, 8, 41), BEYOND);
        Due.is("sheet(0, 32, MOST)", x.sheet(0, 32, MOST), BEYOND);
        Due.is("still missing", x.put(0, 0, 0), NONE);
        Due.is("sheet(0, 8, 40)", x.sheet(0, 8, 40), 1);
        Due.is("put(0, 39, 5)", x.put(0, 39, 5), 1);
        Due.is("put(0, 40, 5)", x.put(0, 40, 5), BEYOND);
        Due.is("sheet(3, 16, 0)", x.sheet(3, 16, 0), 1);
        Due.is("none stand there, but it isn't missing", x.put(3, 0, 0), BEYOND);
        Due.is("sheet(0, 0, -1)", x.sheet(0, 0, -1), 1);
        Due.is("missing", x.put(0, 0, 0), NONE);
        Due.is("sheet(0, 0, 99)", x.sheet(0, 0, 99), 1);
        Due.is("sheet(1, 0, MOST), missing already", x.sheet(1, 0, MOST), 1);
        sheetAnew();
    }

    private static void sheetAnew() {
        LagoonOpera x = new LagoonOpera();
        x.boat(10, 0);
        x.sheet(0, 32, 3);
        x.put(0, 1, 9);
        Due.is("judge ahead", x.judge(0, 0), 1);
        x.sheet(0, 32, -1);
        Due.is("a refused one changes nothing", x.judge(0, 0), 1);
        x.sheet(0, 32, 3);
        Due.is("all 0 anew", x.judge(0, 0), 3);
    }

    private static void promise33() {
        LagoonOpera x = new LagoonOpera();
        x.boat(0, 0);
        Due.is("put(-1, 0, 0)", x.put(-1, 0, 0), BEYOND);
        Due.is("put(4, 0, 0)", x.put(4, 0, 0), BEYOND);
        Due.is("put(3, -1, 0), missing", x.put(3, -1, 0), NONE);
        x.sheet(3, 8, 2);
        Due.is("put(3, -1, 0)", x.put(3, -1, 0), BEYOND);
        Due.is("put(3, 2, 0)", x.put(3, 2, 0), BEYOND);
        Due.is("put(3, 0, 256 + 5)", x.put(3, 0, 256 + 5), 1);
        Due.is("put(3, 1, 31)", x.put(3, 1, 31), 1);
        Due.is("lowest 8 bits", x.part(3, 0), 2);
        Due.is("PART", x.ofBoat(0, 3), Due.bit(5) | Due.bit(31));
        x.put(3, 1, -1);
        Due.is("-1 is none of 0 to 31", x.part(3, 0), 1);
        x.put(3, 1, 0x80);
        Due.is("128 is none of 0 to 31", x.part(3, 0), 1);
        x.sheet(1, 16, 2);
        x.put(1, 0, 65536 + 6);
        x.put(1, 1, 256);
        Due.is("lowest 16 bits", x.part(1, 0), 1);
        Due.is("PART", x.ofBoat(0, 3), Due.bit(6));
        x.sheet(2, 32, 2);
        x.put(2, 0, 7);
        x.put(2, 1, 65536);
        Due.is("all 32 bits", x.part(2, 0), 1);
        x.put(2, 1, LEAST);
        Due.is("all 32 bits", x.part(2, 0), 1);
    }

    private static void promise34() {
        LagoonOpera x = new LagoonOpera();
        x.sheet(0, 8, 3);
        x.sheet(1, 8, 4);
        x.sheet(2, 16, 3);
        Due.is("no such SHEET", x.move(-1, 0, 3, 0, 1), BEYOND);
        Due.is("no such SHEET", x.move(3, 0, 4, 0, 1), BEYOND);
        Due.is("one is missing", x.move(3, -1, 0, 0, 1), NONE);
        Due.is("the other one is missing", x.move(2, 0, 3, 0, 1), NONE);
        Due.is("unlike bits", x.move(0, -1, 2, 0, 1), KIND);
        int[][] beyond = {
            {-1, 0, 1}, {0, -1, 1}, {0, 0, -1}, {0, 0, 4}, {1, 0, 3}, {3, 0, 1}, {0, 2, 3}, {0, 4, 1}, {4, 0, 0}, {0, 5, 0},
            {MOST, 0, 1}, {0, MOST, 1}, {0, 0, MOST}, {1, 1, MOST}, {MOST, MOST, MOST}, {LEAST, LEAST, LEAST},
        };
        for (int[] b : beyond) Due.is("BEYOND", x.move(0, b[0], 1, b[1], b[2]), BEYOND);
        Due.is("none, at the ends", x.move(0, 3, 1, 4, 0), 0);
        for (int i = 0; i < 3; i++) x.put(0, i, 10 + i);
        Due.is("move(0, 1, 1, 2, 2)", x.move(0, 1, 1, 2, 2), 2);
        sheetIs(x, 1, 8, 0, 0, 11, 12);
        sheetIs(x, 0, 8, 10, 11, 12);
        Due.is("move(0, 0, 1, 0, 3)", x.move(0, 0, 1, 0, 3), 3);
        sheetIs(x, 1, 8, 10, 11, 12, 12);
        Due.is("told(5)", x.told(5), 1);
    }

    private static void promise34Overlap() {
        LagoonOpera x = new LagoonOpera();
        x.sheet(0, 32, 5);
        for (int i = 0; i < 5; i++) x.put(0, i, 20 + i);
        Due.is("on in itself", x.move(0, 0, 0, 1, 4), 4);
        sheetIs(x, 0, 32, 20, 20, 21, 22, 23);
        Due.is("back in itself", x.move(0, 2, 0, 0, 3), 3);
        sheetIs(x, 0, 32, 21, 22, 23, 22, 23);
    }

    /** Whether the numbers of a SHEET are so: SHEET 3 takes one after the other, and judges a BARGE that is put there. */
    private static void sheetIs(LagoonOpera x, int sheet, int bits, int... numbers) {
        if (x.count(1) == 0) x.boat(10, 0);
        x.sheet(3, bits, 1);
        for (int i = 0; i < numbers.length; i++) {
            x.change(0, 2, numbers[i]);
            x.move(sheet, i, 3, 0, 1);
            Due.is("number " + i + " of SHEET " + sheet, x.judge(3, 0), 1);
        }
    }

    private static void promise35() {
        LagoonOpera x = new LagoonOpera();
        x.boat(0, 0);
        Due.is("part(-1, 0)", x.part(-1, 0), BEYOND);
        Due.is("part(4, 0)", x.part(4, 0), BEYOND);
        Due.is("part(0, 1), missing", x.part(0, 1), BEYOND);
        Due.is("part(0, -1), missing", x.part(0, -1), BEYOND);
        Due.is("part(0, 0), missing", x.part(0, 0), NONE);
        x.sheet(0, 8, 5);
        int[] numbers = {31, 3, 3, 32, 4};
        for (int i = 0; i < 5; i++) x.put(0, i, numbers[i]);
        Due.is("up to the first that isn't one", x.part(0, 0), 2);
        Due.is("PART", x.ofBoat(0, 3), Due.bit(31) | Due.bit(3));
        x.put(0, 0, 99);
        Due.is("none", x.part(0, 0), 0);
        Due.is("PART", x.ofBoat(0, 3), 0);
        x.sheet(0, 16, 40);
        for (int i = 0; i < 40; i++) x.put(0, i, i % 32);
        Due.is("all", x.part(0, 0), 32);
        Due.is("PART", x.ofBoat(0, 3), ALL);
        x.sheet(0, 16, 0);
        Due.is("of no numbers", x.part(0, 0), 0);
        Due.is("no ERROR in it", x.told(1) + x.told(2), 5);
    }

    private static void promise36() {
        LagoonOpera x = new LagoonOpera();
        x.boat(20, 0);
        x.tide(0, 2);
        Due.is("judge(-1, 0)", x.judge(-1, 0), BEYOND);
        Due.is("judge(4, 0)", x.judge(4, 0), BEYOND);
        Due.is("judge(0, 1), missing", x.judge(0, 1), BEYOND);
        Due.is("judge(0, -1), missing", x.judge(0, -1), BEYOND);
        Due.is("judge(0, 0), missing", x.judge(0, 0), NONE);
        x.sheet(0, 8, 40);
        for (int i = 0; i < 40; i++) x.put(0, i, Math.min(7, i));
        Due.is("none isn't so", x.judge(0, 0), 40);
        x.put(0, 39, 6);
        Due.is("the last isn't so", x.judge(0, 0), 39);
        x.put(0, 2, 9);
        Due.is("the first that isn't so", x.judge(0, 0), 2);
        x.put(0, 0, 200);
        Due.is("no CELL", x.judge(0, 0), 0);
        x.sheet(0, 8, 0);
        Due.is("of no numbers", x.judge(0, 0), 0);
        x.sheet(0, 32, 2);
        x.beats(2);
        x.put(0, 0, 2);
        x.put(0, 1, 3);
        Due.is("from now on", x.judge(0, 0), 2);
        Due.is("nothing went by", x.count(0), 2);
    }

    // ---- images, what is told

    private static void promise37() {
        LagoonOpera x = new LagoonOpera();
        Due.is("image()", x.image(), 1);
        Due.is("image()", x.image(), 2);
        x.restore();
        Due.is("how often isn't kept in it", x.image(), 3);
        x.beats(5);
        Due.is("in place of one ahead", x.image(), 4);
        x.beats(5);
        Due.is("restore()", x.restore(), 5);
    }

    private static LagoonOpera aState() {
        LagoonOpera x = new LagoonOpera();
        x.tide(0, 2);
        x.speed(3);
        Due.boat(x, 25, 9, ALL);
        Due.boat(x, 10, 9, 5);
        x.listener(12);
        Due.text(x, 0, "d*2");
        Due.text(x, 1, "n*2");
        x.seed(77);
        x.loose(2);
        x.feed(0x73, 1);
        x.tell(4);
        return x;
    }

    private static void spoil(LagoonOpera x) {
        x.text(1);
        x.tide(0, 3);
        x.tide(3, 1);
        x.speed(8);
        x.lag(0, 7);
        x.change(0, 3, 0);
        x.become(1, 69);
        Due.boat(x, 0, 0, ALL);
        x.fromHere(20);
        x.listener(3);
        x.row(0, 5);
        Due.text(x, 0, "9");
        Due.text(x, 1, "7");
        x.loose(9);
        x.seed(5);
        Due.feed(x, "ddd");
        x.tell(5);
        x.check(0);
        x.tell(6);
        x.tell(7);
        x.lag(0, 7);
    }

    private static void promise38() {
        LagoonOpera x = aState();
        Due.is("restore(), none", x.restore(), NONE);
        LagoonOpera y = aState();
        y.restore();
        x.image();
        x.sheet(0, 8, 2);
        x.put(0, 1, 9);
        for (int times = 0; times < 2; times++) {
            x.voice(1, 3, 5);
            y.voice(1, 3, 5);
            spoil(x);
            Due.is("restore(): BEAT", x.restore(), 2);
            sameState(x, y);
        }
        Due.is("the bytes of THE TAPE", x.text(0), y.text(0));
        Due.is("the TEXT of them", x.law(0, 1, 88, 0), 88);
        x.restore();
        Due.is("the number that waits", x.check(0), 1);
        x.restore();
        x.check(0);
        x.tell(x.thenListener(1, 0, 1));
        x.image();
        x.check(0);
        x.tell(77);
        x.restore();
        Due.is("the number that waits", x.check(0), 0);
        Due.is("SHEETS stay as they are", x.move(0, 0, 0, 1, 1), 1);
        Due.is("told stays as it is", x.told(2), 1);
        x.image();
        Due.is("LAG by the TEXT", x.lag(0, 63), 12);
        x.text(1);
        Due.text(x, 0, "9");
        Due.is("LAG by another TEXT", x.lag(0, 63), 9);
        x.restore();
        Due.is("LAG by the TEXT again", x.lag(0, 63), 12);
    }

    private static void sameState(LagoonOpera x, LagoonOpera y) {
        for (int what = 0; what <= 10; what++) Due.is("count(" + what + ")", x.count(what), y.count(what));
        for (int boat = 0; boat < 2; boat++) {
            for (int what = 0; what < 5; what++) Due.is("ofBoat", x.ofBoat(boat, what), y.ofBoat(boat, what));
            for (int cell = 0; cell < 64; cell += 9) Due.is("lag", x.lag(boat, cell), y.lag(boat, cell));
            Due.is("then", x.then(30, boat), y.then(30, boat));
        }
        for (int what = 0; what < 4; what++) {
            Due.is("ofListener", x.ofListener(0, what), y.ofListener(0, what));
            Due.is("thenListener", x.thenListener(9, 0, what), y.thenListener(9, 0, what));
        }
        Due.is("LAGS", x.law(0, 7, 2, 1), y.law(0, 7, 2, 1));
        Due.is("PAYS", x.law(1, 7, 2, 1), y.law(1, 7, 2, 1));
        Due.is("fromHere", x.fromHere(20), y.fromHere(20));
    }

    private static void promise39() {
        LagoonOpera x = new LagoonOpera();
        for (int i = 1; i <= 20; i++) Due.is("tell " + i, x.tell(BEYOND + i), i);
        Due.is("tell, 20 wait", x.tell(0), FULL);
        Due.is("count(8)", x.count(8), 20);
        Due.is("told(4)", x.told(4), 1);
        x.check(0);
        Due.is("none wait then", x.tell(3), 1);
    }

    private static void promise40() {
        LagoonOpera x = new LagoonOpera();
        x.listener(3);
        Due.boat(x, 10, 3, Due.bit(0) | Due.bit(2));
        Due.boat(x, 10, 3, ALL);
        Due.is("none wait", x.check(0), 0);
        int[] due = {1, 1, 2, 2};
        for (int v : due) x.tell(v);
        Due.is("all are so", x.check(0), 0);
        Due.is("none wait then", x.count(8), 0);
        int[] wrong = {1, 1, 1, 2};
        for (int v : wrong) x.tell(v);
        Due.is("the third isn't so", x.check(0), 3);
        Due.is("none wait then", x.count(8), 0);
        x.tell(0);
        Due.is("the first isn't so", x.check(0), 1);
        x.tell(1);
        Due.is("check(1)", x.check(1), BEYOND);
        Due.is("none wait then, too", x.count(8), 0);
        x.tell(1);
        Due.is("check(-1)", x.check(-1), BEYOND);
        Due.is("none wait then, too", x.count(8), 0);
        x.change(0, 3, ALL);
        for (int i = 1; i <= 20; i++) x.tell(i);
        Due.is("no FOG AHEAD", x.check(0), 0);
        x.change(0, 3, Due.bit(0) | Due.bit(2));
        for (int i = 0; i < 20; i++) x.tell(i < 2 ? 1 : 2);
        Due.is("20 are so", x.check(0), 0);
        for (int i = 0; i < 20; i++) x.tell(i == 19 ? 3 : i < 2 ? 1 : 2);
        Due.is("the last isn't so", x.check(0), 20);
        Due.is("nothing went by", x.count(0), 0);
    }

    private static void promise41() {
        LagoonOpera x = aState();
        x.voice(0, 1, 1);
        Due.is("BEAT", x.count(0), 2);
        Due.is("BOATS", x.count(1), 2);
        Due.is("LISTENERS", x.count(2), 1);
        Due.is("sing now", x.count(3), 2);
        Due.is("THE PURSE and COINS", x.count(4) + x.count(5), 50);
        Due.holds("THE PURSE isn't empty", x.count(4) > 0);
        Due.is("SPEED", x.count(6), 3);
        Due.is("bytes of THE TAPE", x.count(7), 1);
        Due.is("numbers that wait", x.count(8), 1);
        Due.is("BODIES in THE TRACE", x.count(9), 3);
        x.seed(BEYOND);
        Due.is("z, any number", x.count(10), BEYOND);
        Due.is("told(1)", x.told(1), 0);
        Due.is("count(11)", x.count(11), BEYOND);
        Due.is("count(-1)", x.count(-1), BEYOND);
        x.beats(1);
        Due.is("sing in BEAT 3", x.count(3), 1);
    }

    private static void promise42() {
        LagoonOpera x = new LagoonOpera();
        Due.is("told(0)", x.told(0), BEYOND);
        Due.is("told(6)", x.told(6), BEYOND);
        Due.is("told(1), counted, too", x.told(1), 2);
        Due.is("told(LEAST)", x.told(LEAST), BEYOND);
        Due.is("told(MOST)", x.told(MOST), BEYOND);
        Due.is("told(1)", x.told(1), 4);
        x.fromHere(-1);
        Due.is("a long, too", x.told(1), 5);
        x.restore();
        x.trace(0);
        Due.is("told(2)", x.told(2), 2);
        x.sheet(0, 8, -1);
        Due.is("told(3)", x.told(3), 1);
        for (int i = 0; i < 10; i++) x.boat(0, 0);
        Due.is("told(4)", x.told(4), 1);
        x.as(0, 1);
        Due.is("told(5)", x.told(5), 1);
        x.image();
        x.restore();
        Due.is("an IMAGE doesn't keep it", x.told(2), 2);
        Due.is("LOW is no ERROR", LOW - BEYOND, 1);
    }
}
