/** Sentences that name an edge: draws, VOICES, SHEETS, IMAGES, what is told; promises 29 to 42. A method each. */
public final class EdgesOfSheetsTest {
    private static final int BEYOND = Due.BEYOND;
    private static final int NONE = Due.NONE;
    private static final int STATE = Due.STATE;
    private static final int FULL = Due.FULL;
    private static final int KIND = Due.KIND;
    private static final int LEAST = Edge.LEAST;
    private static final int MOST = Edge.MOST;
    private static final int[] ANY = {
        LEAST, MOST, -1, 0, 1, Due.LOW, BEYOND, NONE, STATE, FULL, KIND, Due.LOW - 6,
    };

    public static void main(String[] args) {
        drawsAndVoices();
        sheets();
        partsAndJudgements();
        images();
        whatIsTold();
        Due.end();
    }

    private static void drawsAndVoices() {
        promise29AnyNumber();
        promise30Voice();
        promise30AnyNumber();
        promise30IntsGoRound();
        promise31Trace();
        promise31TheLatest();
    }

    private static void sheets() {
        promise32Sheet();
        promise32Refused();
        promise32Missing();
        promise32AllZero();
        promise33Put();
        promise33TheLowestBits();
        promise34Move();
        promise34TheyStandThere();
        promise34Refused();
        promise34AsTheyAllWere();
    }

    private static void partsAndJudgements() {
        promise35Part();
        promise35UpToTheFirst();
        promise36Judge();
        promise36TheFirstThatIsNotSo();
        promise36InTheLastBeat();
    }

    private static void images() {
        promise37Image();
        promise37KeepsAllBut();
        promise38Restore();
        promise38TheImageStays();
        promise38AllIsAsTheImageHasIt();
        promise38FewerThanAheadOfIt();
    }

    private static void whatIsTold() {
        promise39Tell();
        promise40Check();
        promise40Refused();
        promise40InTheLastBeat();
        promise41Count();
        promise41FullCounts();
        promise42Told();
        promise42OfEachError();
    }

    // ---- draws and VOICES

    private static void promise29AnyNumber() {
        LagoonOpera x = Edge.rich();
        int was = x.count(10);
        for (int z : ANY) {
            Due.is("what it was", x.seed(z), was);
            Due.is("z", x.count(10), z);
            was = z;
        }
        Edge.counted("seed", x, Edge.rich(), 0);
        Due.is("1 at first", new LagoonOpera().seed(0), 1);
    }

    private static void promise30Voice() {
        Edge.range("BOAT of voice", 0, 2, (x, v) -> x.voice(v, 0, 5));
        Edge.range("act of voice", 0, 3, (x, act) -> x.voice(1, act, 5));
        Edge.refused("no BOATS", LagoonOpera::new, x -> x.voice(0, 0, 0), BEYOND);
        LagoonOpera x = new LagoonOpera();
        for (int boat = 0; boat < 9; boat++) x.boat(9 - boat, 0);
        for (int boat = 0; boat < 9; boat++) {
            Due.is("n is the number, 0 to 8", x.voice(boat, 0, 100), 100 + boat);
            Due.is("m is 9 to 1", x.voice(boat, 2, 100), 100 - (9 - boat));
        }
    }

    private static void promise30AnyNumber() {
        LagoonOpera x = new LagoonOpera();
        x.boat(0, 0);
        for (int v : ANY) {
            Due.is("sings", x.voice(0, 0, v), v);
            Due.is("drifts", x.voice(0, 1, v), 2 * v);
            Due.is("waits", x.voice(0, 2, v), v);
            Due.is("tells", x.voice(0, 3, v), 2 * v ^ v);
        }
        for (int k = 1; k <= 5; k++) Due.is("no ERROR: told(" + k + ")", x.told(k), 0);
    }

    private static void promise30IntsGoRound() {
        LagoonOpera x = new LagoonOpera();
        x.boat(0, 0);
        x.boat(9, 0);
        Due.is("the most and 1", x.voice(1, 0, MOST), LEAST);
        Due.is("the least and 1", x.voice(1, 0, LEAST), LEAST + 1);
        Due.is("the least less 9", x.voice(1, 2, LEAST), MOST - 8);
        Due.is("(the most and 1) * 2", x.voice(1, 1, MOST), 0);
        x.become(1, 29);
        Due.is("DRIFTER: (the most and 1) * 3", x.voice(1, 0, MOST), LEAST);
        x.become(1, 30);
        Due.is("TOWED: -the least", x.voice(1, 2, LEAST), LEAST);
        x.become(1, 40);
        Due.is("ECHO: the most and 1, and 1, * 2, less 1", x.voice(1, 1, MOST), (LEAST + 1) * 2 - 1);
    }

    /** No VOICE has more than 9 BODIES, so that the 40 of THE TRACE are never full. */
    private static void promise31Trace() {
        int bodies = Edge.rich().count(9);
        Due.is("BODIES", bodies, 9);
        Due.is("the first", Edge.rich().trace(0), 71);
        Due.is("the last", Edge.rich().trace(8), 12);
        for (int i : new int[] {LEAST, -1, 9, 39, 40, 41, MOST}) Edge.refused("trace(" + i + ")", x -> x.trace(i), NONE);
        Edge.refused("none at first", LagoonOpera::new, x -> x.trace(0), NONE);
    }

    private static void promise31TheLatest() {
        LagoonOpera x = Edge.rich();
        x.voice(0, 2, 1);
        Due.is("one BODY", x.count(9), 1);
        Due.is("the first", x.trace(0), 12);
        Due.is("no second, though the one ahead had it", x.trace(1), NONE);
        x.voice(3, 2, 1);
        x.voice(0, 4, 1);
        Due.is("refused ones leave it", x.count(9), 1);
        Due.is("refused ones leave it", x.trace(0), 12);
        x.beats(5);
        x.become(0, 0);
        Due.is("it stays", x.trace(0), 12);
    }

    // ---- promise 32

    private static void promise32Sheet() {
        Edge.range("SHEET of sheet", 0, 3, (x, v) -> x.sheet(v, 8, 5));
        for (int bits : new int[] {8, 16, 32}) {
            for (int n : new int[] {0, 1, 39, 40}) {
                LagoonOpera x = Edge.rich();
                Due.is("of " + n, x.sheet(2, bits, n), 1);
                Due.is("all of them can be moved", x.move(2, 0, 2, 0, n), n);
                Due.is("not one more", x.move(2, 0, 2, 0, n + 1), BEYOND);
                Due.is("the last one", x.put(2, n - 1, 1), n == 0 ? BEYOND : 1);
                Due.is("none behind it", x.put(2, n, 1), BEYOND);
            }
        }
    }

    private static void promise32Refused() {
        for (int bits : new int[] {LEAST, -32, -8, -1, 1, 7, 9, 15, 17, 24, 31, 33, 64, MOST}) {
            Edge.refused("bits " + bits, x -> x.sheet(0, bits, 5), BEYOND);
            Edge.refused("bits " + bits + " ahead of n below 0", x -> x.sheet(0, bits, -1), BEYOND);
        }
        for (int bits : new int[] {8, 16, 32}) {
            for (int n : new int[] {-1, -2, LEAST}) Edge.refused("n " + n, x -> x.sheet(0, bits, n), STATE);
            for (int n : new int[] {41, 42, MOST}) Edge.refused("n " + n, x -> x.sheet(0, bits, n), BEYOND);
        }
        Edge.refused("a missing one stays missing", x -> x.sheet(3, 8, -1), STATE);
        Edge.refused("a missing one stays missing", x -> x.sheet(3, 8, 41), BEYOND);
        Edge.refused("no such SHEET ahead of n below 0", x -> x.sheet(4, 8, -1), BEYOND);
        Edge.refused("no such SHEET ahead of n below 0", x -> x.sheet(-1, 8, -1), BEYOND);
        Edge.refused("no such SHEET, missing", x -> x.sheet(4, 0, 0), BEYOND);
    }

    private static void promise32Missing() {
        for (int n : new int[] {LEAST, -1, 0, 1, 40, 41, MOST}) {
            LagoonOpera x = Edge.rich();
            Due.is("n doesn't matter: " + n, x.sheet(0, 0, n), 1);
            Due.is("it is missing: put", x.put(0, 0, 0), NONE);
            Due.is("it is missing: part", x.part(0, 0), NONE);
            Due.is("it is missing: judge", x.judge(0, 0), NONE);
            Due.is("it is missing: move", x.move(0, 0, 0, 0, 0), NONE);
            Due.is("missing anew", x.sheet(0, 0, n), 1);
        }
        LagoonOpera x = Edge.rich();
        for (int sheet = 0; sheet < 3; sheet++) x.sheet(sheet, 0, 0);
        Look.same("a new one is missing, and n -1", x, without());
    }

    /** As rich(), but all SHEETS are missing. */
    private static LagoonOpera without() {
        LagoonOpera x = Edge.rich();
        x.sheet(2, 0, -1);
        x.sheet(1, 0, 41);
        x.sheet(0, 0, 5);
        return x;
    }

    private static void promise32AllZero() {
        LagoonOpera x = Edge.rich();
        x.sheet(0, 8, 5);
        Due.is("all 0: BEAT 0 alone", x.part(0, 0), 1);
        Due.is("PART", x.ofBoat(0, 3), Due.bit(0));
        Edge.laid(x, 0, 8, 1, 2, 3, 4, 5);
        x.sheet(0, 8, 3);
        x.sheet(0, 8, 5);
        Due.is("shorter, and longer again: all 0", x.part(0, 0), 1);
        Due.is("PART", x.ofBoat(0, 3), Due.bit(0));
        Edge.laid(x, 0, 8, 1, 2, 3, 4, 5);
        x.sheet(0, 0, 0);
        x.sheet(0, 32, 5);
        Due.is("missing, and there again: all 0", x.part(0, 0), 1);
        Due.is("PART", x.ofBoat(0, 3), Due.bit(0));
    }

    // ---- promise 33

    private static void promise33Put() {
        for (int sheet : new int[] {LEAST, -1, 4, MOST}) {
            Edge.refused("no such SHEET", x -> x.put(sheet, 0, 1), BEYOND);
            Edge.refused("no such SHEET ahead of no such number", x -> x.put(sheet, -1, 1), BEYOND);
        }
        for (int i : new int[] {LEAST, -1, 0, 40, MOST}) Edge.refused("a missing one", x -> x.put(3, i, 1), NONE);
        Edge.range("number of put", 0, 4, (x, i) -> x.put(0, i, 9));
        Edge.range("number of put", 0, 2, (x, i) -> x.put(1, i, 9));
        for (int i : new int[] {-1, 0, 1}) Edge.refused("of no numbers", EdgesOfSheetsTest::noNumbers, x -> x.put(3, i, 1), BEYOND);
        LagoonOpera x = Edge.rich();
        x.put(0, 0, 7);
        x.put(0, 4, 8);
        x.part(0, 0);
        Due.is("the first and the last, the other ones stay", x.ofBoat(0, 3), 1 << 7 | 1 << 1 | 1 << 4 | 1 << 31 | 1 << 8);
    }

    /** As rich(), with a SHEET 3 of no numbers. */
    private static LagoonOpera noNumbers() {
        LagoonOpera x = Edge.rich();
        x.sheet(3, 8, 0);
        return x;
    }

    /** What is left of a number by its lowest bits; 0 to 31 is seen as the BEAT in which a BOAT sings. */
    private static void promise33TheLowestBits() {
        for (int bits : new int[] {8, 16, 32}) {
            LagoonOpera x = new LagoonOpera();
            x.boat(10, 0);
            x.sheet(0, bits, 1);
            int[] numbers = {
                0, 31, 32, 255, 256, 256 + 31, 256 + 32, 65535, 65536, 65536 + 31, 65536 + 32, -1, -256, -225, -65536, -65505,
                LEAST, LEAST + 31, MOST, 1 << 24,
            };
            for (int v : numbers) {
                Due.is("put", x.put(0, 0, v), 1);
                int left = bits == 32 ? v : v & ((1 << bits) - 1);
                boolean beat = left >= 0 && left <= 31;
                Due.is(v + " in " + bits + " bits", x.part(0, 0), beat ? 1 : 0);
                Due.is(v + " in " + bits + " bits, PART", x.ofBoat(0, 3), beat ? 1 << left : 0);
                if (left >= 0 && left <= 63) {
                    x.change(0, 2, left);
                    Due.is(v + " in " + bits + " bits, CELL", x.judge(0, 0), 1);
                }
            }
        }
    }

    // ---- promise 34

    /** As rich(), but SHEET 3 has five numbers of 32 bits. */
    private static LagoonOpera fourSheets() {
        LagoonOpera x = Edge.rich();
        x.sheet(3, 32, 5);
        return x;
    }

    /** As rich(), but all SHEETS are of 16 bits. */
    private static LagoonOpera fourAlike() {
        LagoonOpera x = Edge.rich();
        for (int sheet = 0; sheet < 4; sheet++) Edge.laid(x, sheet, 16, sheet, 9, 6);
        return x;
    }

    private static void promise34Move() {
        Edge.range("one SHEET of move", EdgesOfSheetsTest::fourAlike, 0, 3, (x, v) -> x.move(v, 0, 0, 1, 1));
        Edge.range("the other SHEET of move", EdgesOfSheetsTest::fourAlike, 0, 3, (x, v) -> x.move(0, 0, v, 1, 1));
        for (int one = 0; one < 4; one++) {
            for (int other = 0; other < 4; other++) {
                LagoonOpera x = fourAlike();
                Due.is("from SHEET " + one + " to " + other, x.move(one, 0, other, 1, 1), 1);
                x.part(other, 0);
                Due.is("what stands there", x.ofBoat(0, 3), 1 << other | 1 << one | 1 << 6);
                Due.is("what came stays where it was", x.part(one, 0), one == other ? 2 : 3);
            }
        }
    }

    private static void promise34TheyStandThere() {
        // SHEET 0 has five numbers, SHEET 2 two
        int[][] taken = {
            {0, 0, 0}, {0, 0, 1}, {0, 0, 2}, {4, 1, 1}, {3, 0, 2}, {5, 0, 0}, {0, 2, 0}, {5, 2, 0}, {4, 0, 1}, {4, 2, 0},
        };
        for (int[] t : taken) {
            LagoonOpera x = Edge.rich();
            Due.is("move from " + t[0] + " to " + t[1] + " of " + t[2], x.move(0, t[0], 2, t[1], t[2]), t[2]);
            if (t[2] == 0) Look.same("none come", x, Edge.rich());
        }
        int[][] refused = {
            {-1, 0, 1}, {0, -1, 1}, {0, 0, -1}, {5, 0, 1}, {4, 0, 2}, {0, 2, 1}, {0, 1, 2}, {0, 0, 3}, {6, 0, 0}, {0, 3, 0},
            {-1, 0, 0}, {0, -1, 0}, {6, 0, -1}, {0, 3, -1}, {LEAST, 0, 1}, {0, LEAST, 1}, {0, 0, LEAST}, {MOST, 0, 1},
            {0, MOST, 1}, {0, 0, MOST}, {MOST, 0, MOST}, {1, 1, MOST}, {MOST, MOST, MOST}, {MOST, MOST, 0}, {-1, -1, 2},
        };
        for (int[] r : refused) {
            String call = "move from " + r[0] + " to " + r[1] + " of " + r[2];
            Edge.refused(call, x -> x.move(0, r[0], 2, r[1], r[2]), BEYOND);
        }
        LagoonOpera x = Edge.rich();
        x.sheet(3, 16, 0);
        Due.is("none of no numbers", x.move(3, 0, 1, 3, 0), 0);
        Due.is("one of no numbers", x.move(3, 0, 1, 0, 1), BEYOND);
        x.sheet(2, 16, 40);
        x.sheet(3, 16, 40);
        Due.is("all 40", x.move(2, 0, 3, 0, 40), 40);
        Due.is("41", x.move(2, 0, 3, 0, 41), BEYOND);
        Due.is("the 40th", x.move(2, 39, 3, 39, 1), 1);
        Due.is("the 41st", x.move(2, 40, 3, 39, 1), BEYOND);
    }

    private static void promise34Refused() {
        for (int no : new int[] {LEAST, -1, 4, MOST}) {
            Edge.refused("no such SHEET, the other is missing", x -> x.move(no, 0, 3, 0, 1), BEYOND);
            Edge.refused("one is missing, no such other SHEET", x -> x.move(3, 0, no, 0, 1), BEYOND);
            Edge.refused("no such SHEETS", x -> x.move(no, -1, no, -1, -1), BEYOND);
        }
        Edge.refused("one is missing", x -> x.move(3, 0, 0, 0, 1), NONE);
        Edge.refused("the other is missing", x -> x.move(0, 0, 3, 0, 1), NONE);
        Edge.refused("both are missing", x -> x.move(3, 0, 3, 0, 0), NONE);
        Edge.refused("missing is asked ahead of BEYOND", x -> x.move(0, -1, 3, -1, -1), NONE);
        for (int one = 0; one < 3; one++) {
            int of = one == 1 ? 0 : 1;
            int from = one;
            Edge.refused("unlike bits", EdgesOfSheetsTest::fourSheets, x -> x.move(from, 0, of, 0, 1), KIND);
            Edge.refused("unlike bits", EdgesOfSheetsTest::fourSheets, x -> x.move(from, 0, 3, 0, 1), KIND);
            Edge.refused("unlike bits", EdgesOfSheetsTest::fourSheets, x -> x.move(3, 0, from, 0, 1), KIND);
        }
        Edge.refused("unlike bits ahead of BEYOND", x -> x.move(0, -1, 1, 99, MOST), KIND);
        Edge.refused("unlike bits, none come", x -> x.move(0, 0, 1, 0, 0), KIND);
    }

    private static void promise34AsTheyAllWere() {
        for (int from = 0; from <= 5; from++) {
            for (int to = 0; to <= 5; to++) {
                for (int n = 0; n <= 5 - Math.max(from, to); n++) {
                    LagoonOpera x = Edge.rich();
                    Due.is("move in itself", x.move(0, from, 0, to, n), n);
                    int[] due = {3, 1, 4, 31, 0};
                    int[] were = due.clone();
                    for (int i = 0; i < n; i++) due[to + i] = were[from + i];
                    LagoonOpera y = Edge.rich();
                    Edge.laid(y, 0, 8, due);
                    Look.same("move " + n + " from " + from + " to " + to, x, y);
                }
            }
        }
    }

    // ---- promises 35 and 36

    private static void promise35Part() {
        for (int no : new int[] {LEAST, -1, 4, MOST}) {
            Edge.refused("no such SHEET", x -> x.part(no, 0), BEYOND);
            Edge.refused("no such SHEET, no such BOAT", x -> x.part(no, 3), BEYOND);
        }
        Edge.range("BOAT of part", 0, 2, (x, v) -> x.part(0, v));
        Edge.refused("a missing SHEET", x -> x.part(3, 0), NONE);
        Edge.refused("no such BOAT is asked ahead of missing", x -> x.part(3, 3), BEYOND);
        Edge.refused("no such BOAT is asked ahead of missing", x -> x.part(3, -1), BEYOND);
        Edge.refused("no BOATS", LagoonOpera::new, x -> x.part(0, 0), BEYOND);
    }

    private static void partIs(int bits, int[] numbers, int due) {
        LagoonOpera x = Edge.rich();
        Edge.laid(x, 2, bits, numbers);
        String call = "PART of " + java.util.Arrays.toString(numbers) + " by " + bits;
        Due.is(call, x.part(2, 1), Integer.bitCount(due));
        Due.is(call, x.ofBoat(1, 3), due);
        Due.is("that of another BOAT stays", x.ofBoat(0, 3), Due.ALL);
        Edge.counted(call, x, Edge.rich(), 0);
    }

    private static void promise35UpToTheFirst() {
        for (int bits : new int[] {8, 16, 32}) {
            partIs(bits, new int[] {}, 0);
            partIs(bits, new int[] {0}, 1);
            partIs(bits, new int[] {31}, 1 << 31);
            partIs(bits, new int[] {32}, 0);
            partIs(bits, new int[] {-1}, 0);
            partIs(bits, new int[] {LEAST + 5}, bits == 32 ? 0 : 1 << 5);
            partIs(bits, new int[] {0, 31, 0, 31}, 1 | 1 << 31);
            partIs(bits, new int[] {4, 32, 5}, 1 << 4);
            partIs(bits, new int[] {4, -1, 5}, 1 << 4);
            partIs(bits, new int[] {4, 5, 32}, 1 << 4 | 1 << 5);
            partIs(bits, new int[] {4, 5, 6}, 1 << 4 | 1 << 5 | 1 << 6);
            int[] forty = new int[40];
            for (int i = 0; i < 40; i++) forty[i] = i % 32;
            partIs(bits, forty, -1);
            for (int i = 0; i < 40; i++) forty[i] = i == 39 ? 9 : 8;
            partIs(bits, forty, 1 << 8 | 1 << 9);
            forty[39] = 40;
            partIs(bits, forty, 1 << 8);
        }
    }

    private static void promise36Judge() {
        for (int no : new int[] {LEAST, -1, 4, MOST}) {
            Edge.refused("no such SHEET", x -> x.judge(no, 0), BEYOND);
            Edge.refused("no such SHEET, no such BOAT", x -> x.judge(no, 3), BEYOND);
        }
        Edge.range("BOAT of judge", 0, 2, (x, v) -> x.judge(0, v));
        Edge.refused("a missing SHEET", x -> x.judge(3, 0), NONE);
        Edge.refused("no such BOAT is asked ahead of missing", x -> x.judge(3, 3), BEYOND);
        Edge.refused("no such BOAT is asked ahead of missing", x -> x.judge(3, -1), BEYOND);
        Edge.changesNothing("judge", x -> x.judge(0, 0));
        Edge.changesNothing("judge of SHEET 2", x -> x.judge(2, 0));
    }

    private static void promise36TheFirstThatIsNotSo() {
        for (int n : new int[] {0, 1, 2, 39, 40}) {
            LagoonOpera x = Edge.rich();
            x.sheet(0, 16, n);
            for (int i = 0; i < n; i++) x.put(0, i, x.then(i, 0));
            Due.is("all of " + n + " are so", x.judge(0, 0), n);
            for (int i : new int[] {39, 38, 1, 0}) {
                if (i >= n) continue;
                x.put(0, i, x.then(i, 0) + 64);
                Due.is("not so from " + i + " on", x.judge(0, 0), i);
            }
        }
        LagoonOpera x = new LagoonOpera();
        x.boat(10, 63);
        Edge.laid(x, 0, 8, 63, 63, 319, 63, 64);
        Due.is("63 by 8 bits is 319, too; 64 is no CELL", x.judge(0, 0), 4);
        x.change(0, 2, 0);
        Edge.laid(x, 0, 32, 0, 1 << 31, 0);
        Due.is("by 32 bits the sign counts", x.judge(0, 0), 1);
        Edge.laid(x, 0, 16, 0, 1 << 16, 1 << 15);
        Due.is("by 16 bits the 17th doesn't", x.judge(0, 0), 2);
    }

    private static void promise36InTheLastBeat() {
        LagoonOpera x = Edge.last();
        x.sheet(0, 32, 40);
        for (int i = 0; i < 40; i++) x.put(0, i, x.then(i, 1));
        Due.is("beyond BEAT 9999", x.judge(0, 1), 40);
        Due.is("BEAT stays", x.count(0), 9999);
    }

    // ---- promises 37 and 38

    private static void promise37Image() {
        LagoonOpera x = new LagoonOpera();
        for (int i = 1; i <= 40; i++) Due.is("how often", x.image(), i);
        x.restore();
        x.restore();
        Due.is("restore doesn't count, nor go back", x.image(), 41);
        x.beats(3);
        Due.is("in place of one ahead", x.image(), 42);
        x.beats(4);
        Due.is("the latest", x.restore(), 3);
    }

    /** SHEETS, THE TRACE, told() and how often go on through restore(); all else is as it was. */
    private static void promise37KeepsAllBut() {
        LagoonOpera x = Edge.rich();
        x.image();
        x.restore();
        LagoonOpera y = Edge.rich();
        y.image();
        Look.same("restore at once changes nothing", x, y);
        x = Edge.rich();
        Edge.laid(x, 0, 16, 8, 8);
        x.sheet(1, 0, 0);
        x.voice(0, 2, 1);
        x.tide(9, 9);
        x.image();
        Edge.laid(x, 0, 32, 7, 31);
        Edge.laid(x, 1, 8, 5);
        x.voice(0, 3, 1);
        x.tide(9, 9);
        x.restore();
        Due.is("SHEETS stay: a row of 32 bits", x.part(0, 0), 2);
        Due.is("SHEETS stay: what it says", x.ofBoat(0, 3), 1 << 7 | 1 << 31);
        Due.is("SHEETS stay: one that was missing", x.part(1, 0), 1);
        Due.is("THE TRACE stays", x.count(9), 5);
        Due.is("THE TRACE stays", x.trace(0), 13);
        Due.is("told() stays", x.told(1), Edge.rich().told(1) + 2);
        Due.is("how often stays", x.image(), 3);
    }

    private static void promise38Restore() {
        Edge.refused("there is none", LagoonOpera::new, x -> x.restore(), NONE);
        LagoonOpera x = new LagoonOpera();
        Due.is("none", x.restore(), NONE);
        x.beats(128);
        Due.is("none behind BEATS", x.restore(), NONE);
        x.image();
        Due.is("BEAT", x.restore(), 128);
        Edge.goTo(x, 9999);
        Due.is("no BEAT is left", x.beats(1), STATE);
        Due.is("BEAT", x.restore(), 128);
        Due.is("BEATS are left again", x.beats(1), 0);
        Edge.goTo(x, 9999);
        x.image();
        x.restore();
        Due.is("an IMAGE of the last BEAT", x.restore(), 9999);
        Due.is("no BEAT is left", x.beats(1), STATE);
    }

    /** Filled up to all its ends behind an IMAGE of nothing, and the other way round. */
    private static void promise38TheImageStays() {
        LagoonOpera x = new LagoonOpera();
        x.image();
        for (int times = 1; times <= 3; times++) {
            full(x);
            Due.is("BEAT", x.restore(), 0);
            Due.is("no BOATS", x.count(1), 0);
            Due.is("no LISTENERS", x.count(2), 0);
            Due.is("an empty TAPE", x.count(7), 0);
            Due.is("none waits", x.count(8), 0);
        }
        LagoonOpera twin = new LagoonOpera();
        twin.image();
        Look.same("as at first", x, twin);
        x = new LagoonOpera();
        full(x);
        x.image();
        x.text(0);
        x.listener(0);
        Due.is("FULL: a BOAT", x.boat(0, 0), FULL);
        Due.is("it is told", x.told(4), 2);
        x.restore();
        Due.is("FULL again: THE TAPE", x.feed(0, 1), FULL);
        Due.is("FULL again: a number that waits", x.tell(0), FULL);
        Due.is("FULL again: a LISTENER", x.listener(0), FULL);
        Due.is("it is told", x.told(4), 5);
    }

    private static void full(LagoonOpera x) {
        for (int boat = 0; boat < 9; boat++) x.boat(boat, boat);
        for (int listener = 0; listener < 6; listener++) x.listener(listener);
        Due.feed(x, "d+".repeat(25));
        for (int i = 0; i < 20; i++) x.tell(i);
        x.beats(9);
    }

    /** Nine BOATS, six LISTENERS, 50 bytes, 20 numbers that wait, of all else something other than at first. */
    private static LagoonOpera allOfIt() {
        LagoonOpera x = new LagoonOpera();
        for (int phase = 0; phase < 4; phase++) x.tide(phase, 4 - phase);
        x.speed(8);
        for (int boat = 0; boat < 9; boat++) Due.boat(x, 69 - 7 * boat, 7 * boat + 3, boat == 8 ? Due.ALL : ~(1 << boat));
        for (int listener = 0; listener < 6; listener++) x.listener(60 - 5 * listener);
        Due.text(x, 0, "d/4");
        Due.text(x, 1, "n/3+i");
        x.beats(2);
        x.loose(3);
        Due.feed(x, "!0" + "+1".repeat(22) + "+d-s");
        for (int k = 1; k <= 20; k++) x.tell(x.thenListener(k, 0, 1));
        return x;
    }

    /** All that an IMAGE keeps becomes another, but nothing that it doesn't. */
    private static void otherwise(LagoonOpera x) {
        for (int phase = 0; phase < 4; phase++) x.tide(phase, phase);
        x.speed(2);
        for (int boat = 0; boat < 9; boat++) {
            x.become(boat, 7 * boat + 1);
            x.change(boat, 2, 63 - 7 * boat);
            x.change(boat, 3, 1 << boat);
        }
        for (int listener = 0; listener < 6; listener++) x.row(listener, listener);
        x.text(0);
        Due.text(x, 0, "d*9");
        Due.text(x, 1, "7");
        x.loose(9);
        x.seed(5);
        Due.feed(x, "3".repeat(50));
        x.check(0);
        for (int i = 0; i < 20; i++) x.tell(-1);
    }

    private static void promise38AllIsAsTheImageHasIt() {
        LagoonOpera x = allOfIt();
        LagoonOpera y = allOfIt();
        Due.holds("COINS went", x.count(4) > 0 && x.count(5) > 0);
        x.image();
        y.image();
        for (int times = 0; times < 2; times++) {
            otherwise(x);
            Due.is("BEAT", x.restore(), 5);
        }
        Look.same("restored", x, y);
        x = allOfIt();
        x.image();
        otherwise(x);
        Due.is("the numbers that wait, ahead of it", x.check(0), 1);
        x.restore();
        Due.is("the numbers that wait, the 20th, too", x.check(0), 0);
        Due.is("THE TAPE: the 50th byte", x.text(0), 1);
        Due.is("1 and 22 and d less s", x.law(0, 9, 7, 0), 25);
    }

    /** BOATS and LISTENERS that there were no longer leave nothing to those that come then. */
    private static void promise38FewerThanAheadOfIt() {
        LagoonOpera x = new LagoonOpera();
        x.image();
        for (int i = 0; i < 2; i++) Due.boat(x, 25, 9, Due.ALL);
        x.listener(5);
        Due.text(x, 0, "0");
        x.beats(9);
        Due.is("it was IN TIME", x.ofListener(0, 1), 9);
        x.restore();
        Due.is("none", x.ofBoat(0, 3), BEYOND);
        Due.is("none", x.ofListener(0, 1), BEYOND);
        x.boat(10, 7);
        int[] boat = {1, 0, 7, 0, 0};
        for (int what = 0; what <= 4; what++) Due.is("a new BOAT, " + what, x.ofBoat(0, what), boat[what]);
        x.listener(6);
        int[] listener = {6, 0, 50, 0};
        for (int what = 0; what <= 3; what++) Due.is("a new LISTENER, " + what, x.ofListener(0, what), listener[what]);
    }

    // ---- promises 39 and 40

    /** As rich(), but 20 numbers wait. */
    private static LagoonOpera twentyWait() {
        LagoonOpera x = Edge.rich();
        for (int k = x.count(8) + 1; k <= 20; k++) x.tell(x.thenListener(k, 0, 1));
        return x;
    }

    private static void promise39Tell() {
        LagoonOpera x = new LagoonOpera();
        for (int i = 0; i < 20; i++) {
            Due.is("any number", x.tell(ANY[i % ANY.length]), i + 1);
            Due.is("how many wait", x.count(8), i + 1);
        }
        for (int k = 1; k <= 5; k++) Due.is("no ERROR", x.told(k), 0);
        for (int v : ANY) Edge.refused("20 wait", EdgesOfSheetsTest::twentyWait, y -> y.tell(v), FULL);
        Due.is("FULL", x.tell(1), FULL);
        x.check(0);
        Due.is("none wait behind a refused check", x.tell(1), 1);
    }

    private static void promise40Check() {
        LagoonOpera x = Edge.rich();
        for (int listener = 0; listener < 2; listener++) {
            for (int n : new int[] {0, 1, 2, 19, 20}) {
                for (int wrong : new int[] {-1, 0, 1, 18, 19}) {
                    x.check(listener);
                    for (int k = 1; k <= n; k++) x.tell(x.thenListener(k, listener, 1) + (k - 1 == wrong ? 1 : 0));
                    int due = wrong >= 0 && wrong < n ? 1 + wrong : 0;
                    Due.is(n + " wait, wrong is " + wrong, x.check(listener), due);
                    Due.is("none wait then", x.count(8), 0);
                }
                x = Edge.rich();
            }
        }
        x.check(0);
        Due.is("none waits", x.check(0), 0);
        x.tell(x.ofListener(0, 1) + 99);
        x.tell(-1);
        Due.is("the first of two", x.check(0), 1);
    }

    /** A refused check leaves all but the numbers that wait. */
    private static void promise40Refused() {
        for (int listener : new int[] {LEAST, -1, 2, 6, MOST}) {
            LagoonOpera x = Edge.rich();
            LagoonOpera twin = Edge.rich();
            Due.is("numbers wait", x.count(8), 3);
            Due.is("check(" + listener + ")", x.check(listener), BEYOND);
            Edge.counted("check(" + listener + ")", x, twin, BEYOND);
            Due.is("none wait then, too", x.count(8), 0);
            twin.check(0);
            Look.same("check(" + listener + ")", x, twin);
        }
        LagoonOpera x = twentyWait();
        Due.is("check of 20", x.check(2), BEYOND);
        Due.is("none wait then, too", x.count(8), 0);
        Due.is("there is room", x.tell(5), 1);
        Due.is("no LISTENERS", new LagoonOpera().check(0), BEYOND);
    }

    private static void promise40InTheLastBeat() {
        LagoonOpera x = Edge.last();
        x.check(0);
        for (int k = 1; k <= 20; k++) x.tell(x.thenListener(k, 0, 1));
        Due.is("beyond BEAT 9999", x.check(0), 0);
        Due.is("BEAT stays", x.count(0), 9999);
        LagoonOpera always = new LagoonOpera();
        always.listener(0);
        for (int i = 0; i < 2; i++) Due.boat(always, 10, 0, Due.ALL);
        Edge.goTo(always, 9990);
        for (int k = 1; k <= 20; k++) always.tell(Math.min(9999, 9990 + k));
        Due.is("IN TIME is 9999 at most", always.check(0), 0);
        for (int k = 1; k <= 20; k++) always.tell(9990 + k);
        Due.is("the first beyond 9999", always.check(0), 10);
    }

    // ---- promises 41 and 42

    private static void promise41Count() {
        Edge.range("what of count", 0, 10, (x, what) -> x.count(what));
        int[] first = {0, 0, 0, 0, 0, 0, 2, 0, 0, 0, 1};
        for (int what = 0; what <= 10; what++) Due.is("at first: " + what, new LagoonOpera().count(what), first[what]);
    }

    private static void promise41FullCounts() {
        LagoonOpera x = new LagoonOpera();
        full(x);
        for (int boat = 0; boat < 9; boat++) x.change(boat, 3, Due.bit(15));
        x.voice(5, 3, 1);
        x.speed(9);
        int[] due = {9, 9, 6, 0, 0, 300, 9, 50, 20, 4, 1};
        for (int what = 0; what <= 10; what++) Due.is("full: " + what, x.count(what), due[what]);
        Edge.goTo(x, 9999);
        Due.is("BEAT", x.count(0), 9999);
        Due.is("BOATS that sing in BEAT 9999, 15 of THE PIECE", x.count(3), 9);
        for (int z : ANY) {
            x.seed(z);
            Due.is("z, any number", x.count(10), z);
        }
        Due.is("told(1)", x.told(1), 0);
    }

    private static void promise42Told() {
        for (int k : new int[] {LEAST, -1, 0, 6, MOST}) Edge.refused("told(" + k + ")", x -> x.told(k), BEYOND);
        LagoonOpera x = new LagoonOpera();
        for (int i = 0; i < 50; i++) {
            Due.is("counted, too", x.told(i % 2 == 0 ? 0 : 6), BEYOND);
            Due.is("so often", x.told(1), i + 1);
        }
        for (int k = 2; k <= 5; k++) Due.is("no other one", x.told(k), 0);
        Edge.changesNothing("told(1)", y -> y.told(1));
        Edge.changesNothing("told(5)", y -> y.told(5));
    }

    /** Each ERROR a number of times of its own; answers that are none, and FAULTS, aren't counted. */
    private static void promise42OfEachError() {
        LagoonOpera x = new LagoonOpera();
        for (int i = 0; i < 11; i++) x.fromHere(-1);
        for (int i = 0; i < 12; i++) x.put(0, 0, 0);
        for (int i = 0; i < 13; i++) x.sheet(0, 8, -1);
        full(x);
        for (int i = 0; i < 14; i++) x.tell(1);
        for (int i = 0; i < 15; i++) x.as(0, 1);
        x.text(0);
        x.text(0);
        x.seed(BEYOND);
        x.seed(KIND);
        for (int k = 1; k <= 5; k++) Due.is("told(" + k + ")", x.told(k), 10 + k);
        for (int k = 1; k <= 5; k++) Due.is("asked again, told(" + k + ")", x.told(k), 10 + k);
    }
}
