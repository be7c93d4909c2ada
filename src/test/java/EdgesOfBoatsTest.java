/** Sentences that name an edge: THE LAGOON, THE PIECE, BOATS, LISTENERS; promises 1 to 12. A method each. */
public final class EdgesOfBoatsTest {
    private static final int BEYOND = Due.BEYOND;
    private static final int FULL = Due.FULL;
    private static final int KIND = Due.KIND;
    private static final int LEAST = Edge.LEAST;
    private static final int MOST = Edge.MOST;

    public static void main(String[] args) {
        terms();
        moves();
        promises1To6();
        promises7To12();
        Due.end();
    }

    private static void terms() {
        aPieceBeginsAnewBehindBeat31();
        beatOfThePieceIsTheRestBy32();
        farIsTheGreaterDifference();
        atTheBorderItStays();
        withoutATideItStays();
        aPhaseHasEightBeats();
        lateByAThirdEchoByAll();
        togetherNeedsTwo();
        togetherOfNine();
    }

    private static void moves() {
        eachKindMovesInItsBeats();
        towedByTheRestOfM();
        towAtTheBorder();
        lateNotInBeatsBelowM();
        rowedOnlyWhereItSings();
    }

    private static void promises1To6() {
        promise1AllAsAtFirst();
        promise2Tide();
        promise3Speed();
        promise4NineBoats();
        promise4TakenAndRefused();
        promise5OfBoat();
        promise5AnyPart();
        promise6Change();
        promise6AnotherWhat();
    }

    private static void promises7To12() {
        promise7Become();
        promise8As();
        promise9Lag();
        promise10SixListeners();
        promise10TakenAndRefused();
        promise11OfListener();
        promise11AtItsEnds();
        promise12Row();
    }

    // ---- THE LAGOON and THE PIECE

    private static void aPieceBeginsAnewBehindBeat31() {
        LagoonOpera x = new LagoonOpera();
        Due.boat(x, 10, 0, Due.bit(0));
        Due.boat(x, 10, 0, Due.bit(31));
        for (int beat : new int[] {0, 1, 30, 31, 32, 33, 63, 64}) {
            Edge.goTo(x, beat);
            Due.is("PART of bit 0 in BEAT " + beat, x.ofBoat(0, 4), beat % 32 == 0 ? 1 : 0);
            Due.is("PART of bit 31 in BEAT " + beat, x.ofBoat(1, 4), beat % 32 == 31 ? 1 : 0);
            Due.is("how many sing in BEAT " + beat, x.count(3), beat % 32 == 0 || beat % 32 == 31 ? 1 : 0);
        }
    }

    private static void beatOfThePieceIsTheRestBy32() {
        LagoonOpera x = new LagoonOpera();
        Due.boat(x, 10, 0, Due.bit(15));
        Due.text(x, 0, "t");
        for (int beat : new int[] {0, 31, 32, 63, 9983, 9984, 9999}) {
            Edge.goTo(x, beat);
            Due.is("t in BEAT " + beat, x.lag(0, 0), beat % 32);
        }
        Due.is("BEAT 9999 is BEAT 15 of THE PIECE", x.ofBoat(0, 4), 1);
    }

    private static void farIsTheGreaterDifference() {
        LagoonOpera x = new LagoonOpera();
        x.speed(1);
        x.boat(0, 0);
        int[][] fars = {
            {0, 0, 0}, {0, 7, 7}, {0, 56, 7}, {0, 63, 7}, {63, 0, 7}, {7, 56, 7}, {56, 7, 7}, {27, 28, 1}, {27, 35, 1},
            {27, 36, 1}, {27, 18, 1}, {27, 11, 2}, {27, 25, 2}, {27, 7, 4}, {63, 63, 0}, {7, 8, 7}, {8, 7, 7},
        };
        for (int[] f : fars) {
            x.change(0, 2, f[0]);
            Due.is("FAR of " + f[0] + " and " + f[1], x.lag(0, f[1]), f[2]);
        }
    }

    private static void atTheBorderItStays() {
        for (int way = 1; way <= 4; way++) {
            LagoonOpera x = new LagoonOpera();
            x.tide(0, way);
            x.boat(20, 0);
            for (int cell = 0; cell < 64; cell++) {
                x.change(0, 2, cell);
                Due.is("from CELL " + cell + " by TIDE " + way, x.then(1, 0), next(cell, way));
                boolean stays = next(cell, way) == cell;
                Due.is("its stroke", x.strokes(0, 1), stays ? 0 : 1);
            }
        }
    }

    private static int next(int cell, int way) {
        int row = cell / 8 + (way == 3 ? 1 : way == 1 ? -1 : 0);
        int column = cell % 8 + (way == 2 ? 1 : way == 4 ? -1 : 0);
        boolean outside = row < 0 || row > 7 || column < 0 || column > 7;
        return outside ? cell : Due.cell(row, column);
    }

    private static void withoutATideItStays() {
        LagoonOpera x = new LagoonOpera();
        Due.tides(x, 2);
        Due.tides(x, 0);
        for (int kind = 0; kind < 7; kind++) {
            Due.boat(x, 10 * kind, 27, Due.bit(3));
            Due.is("KIND " + kind + " without a TIDE", x.then(7, kind), 27);
            int tows = kind == 3 ? 3 : 0;
            Due.is("strokes of KIND " + kind, x.strokes(kind, 128), tows);
        }
    }

    private static void aPhaseHasEightBeats() {
        for (int phase = 0; phase < 4; phase++) {
            LagoonOpera x = new LagoonOpera();
            x.boat(20, 56);
            x.tide(phase, 1);
            int first = 8 * phase;
            Due.is("phase " + phase + " ahead of it", x.strokes(0, first), 0);
            Due.is("phase " + phase + ", its first BEAT", x.strokes(0, first + 1), 1);
            x.beats(first + 7);
            x.change(0, 2, 56);
            Due.is("phase " + phase + ", its last BEAT", x.strokes(0, 1), 1);
            x.beats(1);
            x.change(0, 2, 56);
            Due.is("phase " + phase + ", behind it", x.strokes(0, 24), 0);
            Due.is("phase " + phase + ", anew", x.strokes(0, 25), 1);
        }
    }

    private static void lateByAThirdEchoByAll() {
        int[] thirds = {0, 0, 0, 1, 1, 1, 2, 2, 2, 3};
        LagoonOpera x = new LagoonOpera();
        x.boat(0, 0);
        for (int m = 0; m <= 9; m++) {
            x.become(0, 50 + m);
            Due.is("LATE " + m, x.lag(0, 0), thirds[m]);
            x.become(0, 40 + m);
            Due.is("ECHO " + m, x.lag(0, 0), m);
            for (int kind : new int[] {0, 1, 2, 3, 6}) {
                x.become(0, 10 * kind + m);
                Due.is("KIND " + kind + ", m " + m, x.lag(0, 0), 0);
            }
        }
        Due.text(x, 0, "9999");
        x.become(0, 49);
        Due.is("the most that comes behind: 99, and of ECHO 9 more", x.lag(0, 0), 108);
        x.become(0, 59);
        Due.is("of LATE 3 more", x.lag(0, 0), 102);
        Due.text(x, 0, "0-1");
        Due.is("held within 0, then more", x.lag(0, 0), 3);
    }

    private static void togetherNeedsTwo() {
        LagoonOpera x = new LagoonOpera();
        x.listener(0);
        Due.is("no BOATS", x.ofListener(0, 3), 0);
        Due.boat(x, 10, 0, 0);
        Due.boat(x, 10, 0, 0);
        Due.is("none sings", x.ofListener(0, 3), 0);
        x.change(0, 3, Due.ALL);
        Due.is("one sings", x.ofListener(0, 3), 0);
        Due.is("one sings, score", x.score(0, 128), 0);
        x.change(1, 3, Due.ALL);
        Due.is("two sing", x.ofListener(0, 3), 1);
        Due.is("two sing, score", x.score(0, 128), 128);
    }

    private static void togetherOfNine() {
        LagoonOpera x = new LagoonOpera();
        x.listener(0);
        for (int boat = 0; boat < 9; boat++) Due.boat(x, 40, 63, Due.ALL);
        Due.is("nine alike", x.ofListener(0, 3), 1);
        Due.is("nine sing", x.count(3), 9);
        for (int boat = 0; boat < 9; boat++) {
            x.become(boat, 41);
            Due.is("all but BOAT " + boat + " alike", x.ofListener(0, 3), 0);
            Due.is("score without it", x.score(0, 9), 0);
            x.change(boat, 3, 0);
            Due.is("it doesn't sing", x.ofListener(0, 3), 1);
            x.change(boat, 3, Due.ALL);
            x.become(boat, 40);
        }
        for (int boat = 0; boat < 9; boat++) x.become(boat, 43);
        Due.is("nine alike, later", x.ofListener(0, 3), 1);
    }

    // ---- MOVES

    /** All BEATS of THE PIECE, and the first ones of the next turn: whether each KIND makes a stroke. */
    private static void eachKindMovesInItsBeats() {
        LagoonOpera x = new LagoonOpera();
        Due.tides(x, 2);
        for (int kind = 0; kind < 7; kind++) Due.boat(x, 10 * kind + 1, 0, Due.bit(6) | Due.bit(7) | Due.bit(9) | Due.bit(31));
        for (int beat = 0; beat <= 33; beat++) {
            int t = beat % 32;
            boolean odd = t % 2 == 1;
            boolean sings = t == 6 || t == 7 || t == 9 || t == 31;
            boolean[] due = {odd, false, true, odd, false, t >= 1, odd && sings};
            for (int kind = 0; kind < 7; kind++) {
                x.change(kind, 2, 0);
                Due.is("KIND " + kind + " in BEAT " + beat, x.strokes(kind, 1), due[kind] ? 1 : 0);
            }
            x.beats(1);
            if (beat % 16 == 15) x = anew(x, beat + 1);
        }
    }

    /** An object like it, with no calls made yet, in a BEAT. */
    private static LagoonOpera anew(LagoonOpera like, int beat) {
        LagoonOpera x = new LagoonOpera();
        Due.tides(x, 2);
        for (int kind = 0; kind < 7; kind++) Due.boat(x, 10 * kind + 1, 0, like.ofBoat(kind, 3));
        Edge.goTo(x, beat);
        return x;
    }

    private static void towedByTheRestOfM() {
        int[] ways = {1, 2, 3, 4, 1, 2, 3, 4, 1, 2};
        for (int m = 0; m <= 9; m++) {
            LagoonOpera x = new LagoonOpera();
            Due.boat(x, 30 + m, 27, 0);
            Due.boat(x, 60 + m, 27, Due.bit(15));
            for (int t : new int[] {6, 7, 8, 14, 15, 16, 23, 31, 32, 39}) {
                Edge.goTo(x, t);
                x.change(0, 2, 27);
                x.change(1, 2, 27);
                Due.is("TOWED " + m + " in BEAT " + t, x.then(1, 0), t % 8 == 7 ? next(27, ways[m]) : 27);
                Due.is("ROWED " + m + " in BEAT " + t, x.then(1, 1), t == 15 ? next(27, ways[m]) : 27);
            }
        }
    }

    /** By TIDE first, then to the way of m; each of them stays at the border. */
    private static void towAtTheBorder() {
        for (int m = 0; m < 4; m++) {
            LagoonOpera x = new LagoonOpera();
            Due.boat(x, 30 + m, 0, 0);
            x.beats(7);
            for (int tide = 0; tide <= 4; tide++) {
                x.tide(0, tide);
                for (int cell : new int[] {0, 3, 7, 24, 27, 31, 56, 59, 63}) {
                    x.change(0, 2, cell);
                    int due = next(next(cell, tide), m + 1);
                    Due.is("TOWED " + m + " from " + cell + " by TIDE " + tide, x.then(1, 0), due);
                    Due.is("its stroke", x.strokes(0, 1), due == cell ? 0 : 1);
                }
            }
        }
    }

    private static void lateNotInBeatsBelowM() {
        for (int m = 0; m <= 9; m++) {
            LagoonOpera x = new LagoonOpera();
            Due.tides(x, 3);
            Due.boat(x, 50 + m, 0, 0);
            Due.is("LATE " + m + " in BEATS below m", x.strokes(0, m), 0);
            Due.is("LATE " + m + " in BEAT m, too", x.strokes(0, m + 1), 1);
            x.beats(31);
            x.change(0, 2, 0);
            Due.is("LATE " + m + " in BEAT 31", x.strokes(0, 1), 1);
            x.beats(1);
            x.change(0, 2, 0);
            Due.is("LATE " + m + " in the next turn of THE PIECE below m", x.strokes(0, m), 0);
            Due.is("LATE " + m + " in the next turn of THE PIECE at m", x.strokes(0, m + 1), 1);
        }
    }

    private static void rowedOnlyWhereItSings() {
        LagoonOpera x = new LagoonOpera();
        Due.tides(x, 3);
        Due.boat(x, 60, 0, 0);
        Due.is("it sings in none", x.strokes(0, 128), 0);
        x.change(0, 3, Due.bit(0) | Due.bit(2) | Due.bit(30));
        Due.is("it sings in even BEATS", x.strokes(0, 128), 0);
        x.change(0, 3, Due.bit(1));
        Due.is("it sings in BEAT 1: ahead of it", x.strokes(0, 1), 0);
        Due.is("it sings in BEAT 1", x.strokes(0, 2), 1);
        Due.is("it sings in BEAT 1, four turns", x.strokes(0, 128), 4);
        x.change(0, 3, Due.bit(31));
        Due.is("it sings in BEAT 31: TIDE to the south, the way back north", x.strokes(0, 32), 0);
        x.become(0, 62);
        Due.is("it sings in BEAT 31: both to the south", x.then(32, 0), 16);
    }

    // ---- promises 1 to 6

    private static void promise1AllAsAtFirst() {
        LagoonOpera x = new LagoonOpera();
        Due.is("no BOAT: ofBoat", x.ofBoat(0, 0), BEYOND);
        Due.is("no BOAT: then", x.then(0, 0), BEYOND);
        Due.is("no LISTENER: thenListener", x.thenListener(0, 0, 0), BEYOND);
        Due.is("no LISTENER: check", x.check(0), BEYOND);
        Due.is("told(1) of these", x.told(1), 4);
        Due.is("nothing is in time", x.score(0, 128), 0);
        Due.is("all CELLS have as many", x.fromHere(128), -1L);
        Due.is("the least of them", x.place(128), 0);
        Due.is("the least SPEED", x.fitSpeed(63, 128), 1);
        Due.is("THE TAPE is empty", x.text(1), -10);
        Due.is("the first draw is of z 1", x.count(10), 1);
        Due.is("the first BOAT", x.boat(0, 0), 0);
        Due.is("its PART is none", x.ofBoat(0, 3), 0);
        Due.is("no TIDE", x.strokes(0, 128), 0);
        Due.is("the first LISTENER", x.listener(5), 0);
        Due.is("IN TIME", x.ofListener(0, 1), 0);
        Due.is("COINS", x.ofListener(0, 2), 50);
        Due.is("THE PURSE behind a BEAT of nothing", x.beats(1), 0);
        for (int sheet = 0; sheet < 4; sheet++) Due.is("SHEET " + sheet + " is missing", x.judge(sheet, 0), Due.NONE);
        Due.is("the first IMAGE", x.image(), 1);
        Due.is("the first number that waits", x.tell(0), 1);
    }

    private static void promise2Tide() {
        Edge.range("phase of tide", 0, 3, (x, v) -> x.tide(v, 2));
        Edge.range("v of tide", 0, 4, (x, v) -> x.tide(1, v));
        for (int phase = 0; phase < 4; phase++) {
            LagoonOpera x = new LagoonOpera();
            Due.is("what it was at first", x.tide(phase, 4), 0);
            Due.is("what it was", x.tide(phase, 0), 4);
            Due.is("what it was", x.tide(phase, 0), 0);
            for (int other = 0; other < 4; other++) Due.is("the other ones stay", x.tide(other, 0), 0);
        }
    }

    private static void promise3Speed() {
        Edge.range("v of speed", 1, 9, (x, v) -> x.speed(v));
        LagoonOpera x = new LagoonOpera();
        x.boat(10, 0);
        Due.is("what it was at first", x.speed(1), 2);
        Due.is("count(6)", x.count(6), 1);
        Due.is("LAG by SPEED 1", x.lag(0, 63), 7);
        Due.is("what it was", x.speed(9), 1);
        Due.is("count(6)", x.count(6), 9);
        Due.is("LAG by SPEED 9", x.lag(0, 63), 0);
        Due.is("what it was", x.speed(7), 9);
        Due.is("LAG by SPEED 7", x.lag(0, 63), 1);
        Due.is("LAG by SPEED 7, one nearer", x.lag(0, 54), 0);
    }

    private static LagoonOpera nineBoats() {
        LagoonOpera x = Edge.rich();
        for (int boat = x.count(1); boat < 9; boat++) Due.boat(x, 60 + boat, boat, boat);
        return x;
    }

    private static void promise4NineBoats() {
        LagoonOpera x = Edge.rich();
        for (int boat = 3; boat < 9; boat++) {
            Due.is("a number on", x.boat(boat, boat), boat);
            Due.is("so many", x.count(1), boat + 1);
        }
        Edge.refused("a tenth", EdgesOfBoatsTest::nineBoats, y -> y.boat(0, 0), FULL);
        Edge.refused("a tenth, once more", EdgesOfBoatsTest::nineBoats, y -> y.boat(69, 63), FULL);
        Edge.refused("BEYOND is asked ahead of FULL: km", EdgesOfBoatsTest::nineBoats, y -> y.boat(70, 0), BEYOND);
        Edge.refused("BEYOND is asked ahead of FULL: km", EdgesOfBoatsTest::nineBoats, y -> y.boat(-1, 0), BEYOND);
        Edge.refused("BEYOND is asked ahead of FULL: CELL", EdgesOfBoatsTest::nineBoats, y -> y.boat(0, 64), BEYOND);
        Edge.refused("BEYOND is asked ahead of FULL: CELL", EdgesOfBoatsTest::nineBoats, y -> y.boat(0, -1), BEYOND);
    }

    private static void promise4TakenAndRefused() {
        Edge.range("km of boat", 0, 69, (x, v) -> x.boat(v, 5));
        Edge.range("CELL of boat", 0, 63, (x, v) -> x.boat(5, v));
        for (int km : new int[] {0, 9, 10, 19, 20, 29, 30, 39, 40, 49, 50, 59, 60, 69}) {
            LagoonOpera x = new LagoonOpera();
            x.boat(km, km % 64);
            Due.is("KIND of " + km, x.ofBoat(0, 0), km / 10);
            Due.is("m of " + km, x.ofBoat(0, 1), km % 10);
            Due.is("CELL of " + km, x.ofBoat(0, 2), km % 64);
        }
    }

    private static void promise5OfBoat() {
        Edge.range("BOAT of ofBoat", 0, 2, (x, v) -> x.ofBoat(v, 1));
        Edge.range("what of ofBoat", 0, 4, (x, v) -> x.ofBoat(1, v));
        LagoonOpera x = nineBoats();
        Due.is("the ninth", x.ofBoat(8, 1), 8);
        Due.is("the tenth", x.ofBoat(9, 1), BEYOND);
        Edge.refused("no BOATS", LagoonOpera::new, y -> y.ofBoat(0, 0), BEYOND);
    }

    /** Numbers that look like ERRORS, too, and they aren't counted. */
    private static void promise5AnyPart() {
        LagoonOpera x = new LagoonOpera();
        x.boat(0, 0);
        int was = 0;
        int[] parts = {LEAST, MOST, -1, 0, 1, Due.LOW, BEYOND, Due.NONE, Due.STATE, FULL, KIND, Due.LOW - 6};
        for (int part : parts) {
            Due.is("what it was", x.change(0, 3, part), was);
            Due.is("PART", x.ofBoat(0, 3), part);
            Due.is("it sings in BEAT 0", x.ofBoat(0, 4), part & 1);
            was = part;
        }
        for (int k = 1; k <= 5; k++) Due.is("told(" + k + ")", x.told(k), 0);
    }

    private static void promise6Change() {
        Edge.range("BOAT of change", 0, 2, (x, v) -> x.change(v, 2, 5));
        Edge.range("BOAT of change", 0, 2, (x, v) -> x.change(v, 3, 5));
        Edge.range("CELL of change", 0, 63, (x, v) -> x.change(1, 2, v));
        LagoonOpera x = Edge.rich();
        Due.is("what it was", x.change(1, 2, 63), 20);
        Due.is("what it was", x.change(1, 2, 0), 63);
        Due.is("CELL", x.ofBoat(1, 2), 0);
        Due.is("PART stays", x.ofBoat(1, 3), 0x0ff0f0f3);
        Due.is("a CELL's number beyond 63 may be a PART", x.change(1, 3, 64), 0x0ff0f0f3);
        Due.is("PART", x.ofBoat(1, 3), 64);
        Due.is("CELL stays", x.ofBoat(1, 2), 0);
    }

    private static void promise6AnotherWhat() {
        for (int what : new int[] {LEAST, -1, 0, 1, 4, 5, MOST}) {
            Edge.refused("what " + what, x -> x.change(1, what, 1), BEYOND);
        }
        Edge.refused("no BOAT and another what are one ERROR", x -> x.change(3, 4, 64), BEYOND);
    }

    // ---- promises 7 to 12

    private static void promise7Become() {
        Edge.range("BOAT of become", 0, 2, (x, v) -> x.become(v, 31));
        Edge.range("km of become", 0, 69, (x, v) -> x.become(1, v));
        LagoonOpera x = Edge.rich();
        Due.is("the KIND that it was", x.become(1, 69), 6);
        Due.is("the KIND that it was, though m is another", x.become(1, 60), 6);
        Due.is("m", x.ofBoat(1, 1), 0);
        Due.is("the KIND that it was", x.become(1, 0), 6);
        Due.is("the KIND that it was", x.become(1, 9), 0);
        Due.is("CELL stays", x.ofBoat(1, 2), 20);
        Due.is("PART stays", x.ofBoat(1, 3), 0x0ff0f0f3);
    }

    private static void promise8As() {
        Edge.range("BOAT of as", 0, 2, (x, v) -> x.as(v, 0));
        // the ROWED one is of the KINDS 0, 3 and 6 alone
        for (int kind : new int[] {0, 3, 6}) Due.is("ROWED as " + kind, Edge.rich().as(1, kind), 3);
        for (int kind : new int[] {1, 2, 4, 5}) Edge.refused("ROWED as " + kind, x -> x.as(1, kind), KIND);
        for (int kind : new int[] {-1, 7, LEAST, MOST}) Edge.refused("as " + kind, x -> x.as(1, kind), BEYOND);
        Edge.refused("no such BOAT, though not of the KIND", x -> x.as(3, 1), BEYOND);
        LagoonOpera x = new LagoonOpera();
        x.boat(9, 0);
        Due.is("a BOAT is of KIND 0", x.as(0, 0), 9);
        for (int kind = 1; kind <= 6; kind++) Due.is("a BOAT is of no KIND under it", x.as(0, kind), KIND);
        x.become(0, 30);
        Due.is("TOWED isn't of the KIND under it", x.as(0, 6), KIND);
        Due.is("m 0", x.as(0, 3), 0);
    }

    private static void promise9Lag() {
        Edge.range("BOAT of lag", 0, 2, (x, v) -> x.lag(v, 5));
        Edge.range("CELL of lag", 0, 63, (x, v) -> x.lag(1, v));
        LagoonOpera x = new LagoonOpera();
        Due.boat(x, 10, 0, 0);
        Due.is("whether it sings or not: not", x.lag(0, 63), 3);
        x.change(0, 3, Due.ALL);
        Due.is("whether it sings or not: it does", x.lag(0, 63), 3);
        Due.text(x, 0, "1/(d-d)+7");
        Due.is("a TEXT by 0", x.lag(0, 63), 7);
    }

    private static LagoonOpera sixListeners() {
        LagoonOpera x = Edge.rich();
        for (int listener = x.count(2); listener < 6; listener++) x.listener(listener);
        return x;
    }

    private static void promise10SixListeners() {
        LagoonOpera x = Edge.rich();
        for (int listener = 2; listener < 6; listener++) {
            Due.is("a number on", x.listener(60 + listener % 4), listener);
            Due.is("so many", x.count(2), listener + 1);
            Due.is("its CELL", x.ofListener(listener, 0), 60 + listener % 4);
            Due.is("its IN TIME", x.ofListener(listener, 1), 0);
            Due.is("its COINS", x.ofListener(listener, 2), 50);
        }
        Edge.refused("a seventh", EdgesOfBoatsTest::sixListeners, y -> y.listener(0), FULL);
        Edge.refused("a seventh, once more", EdgesOfBoatsTest::sixListeners, y -> y.listener(63), FULL);
        Edge.refused("BEYOND is asked ahead of FULL", EdgesOfBoatsTest::sixListeners, y -> y.listener(64), BEYOND);
        Edge.refused("BEYOND is asked ahead of FULL", EdgesOfBoatsTest::sixListeners, y -> y.listener(-1), BEYOND);
    }

    private static void promise10TakenAndRefused() {
        Edge.range("CELL of listener", 0, 63, (x, v) -> x.listener(v));
        Edge.refused("the first is refused", LagoonOpera::new, x -> x.listener(64), BEYOND);
    }

    private static void promise11OfListener() {
        Edge.range("LISTENER of ofListener", 0, 1, (x, v) -> x.ofListener(v, 0));
        Edge.range("what of ofListener", 0, 3, (x, v) -> x.ofListener(1, v));
        LagoonOpera x = sixListeners();
        Due.is("the sixth", x.ofListener(5, 0), 5);
        Due.is("the seventh", x.ofListener(6, 0), BEYOND);
        Edge.refused("no LISTENERS", LagoonOpera::new, y -> y.ofListener(0, 0), BEYOND);
    }

    /** IN TIME at 9998 and 9999, COINS at 0. */
    private static void promise11AtItsEnds() {
        LagoonOpera x = new LagoonOpera();
        x.listener(0);
        Due.boat(x, 10, 0, Due.ALL);
        Due.boat(x, 10, 0, Due.ALL);
        x.beats(49);
        Due.is("COINS 1", x.ofListener(0, 2), 1);
        x.beats(1);
        Due.is("COINS 0", x.ofListener(0, 2), 0);
        x.beats(1);
        Due.is("COINS 0 stay", x.ofListener(0, 2), 0);
        Edge.goTo(x, 9998);
        Due.is("IN TIME 9998", x.ofListener(0, 1), 9998);
        Due.is("AHEAD, 9999", x.thenListener(1, 0, 1), 9999);
        Due.is("AHEAD, 9999 at most", x.thenListener(2, 0, 1), 9999);
        x.beats(1);
        Due.is("IN TIME 9999", x.ofListener(0, 1), 9999);
        Due.is("AHEAD, 9999 at most", x.thenListener(128, 0, 1), 9999);
        Due.is("TOGETHER still", x.ofListener(0, 3), 1);
    }

    private static void promise12Row() {
        Edge.range("LISTENER of row", 0, 1, (x, v) -> x.row(v, 7));
        Edge.range("CELL of row", 0, 63, (x, v) -> x.row(1, v));
        LagoonOpera x = Edge.rich();
        Due.is("where it was", x.row(1, 63), 29);
        Due.is("where it was", x.row(1, 0), 63);
        Due.is("where it was", x.row(1, 0), 0);
        Due.is("the other one stays", x.ofListener(0, 0), 12);
        Edge.refused("no LISTENERS", LagoonOpera::new, y -> y.row(0, 0), BEYOND);
    }
}
