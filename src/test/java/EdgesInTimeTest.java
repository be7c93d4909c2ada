/** Sentences that name an edge: what is in time, where from, strokes; promises 20 to 28. A method each. */
public final class EdgesInTimeTest {
    private static final int BEYOND = Due.BEYOND;
    private static final int NONE = Due.NONE;
    private static final int LEAST = Edge.LEAST;
    private static final int MOST = Edge.MOST;

    public static void main(String[] args) {
        promise20Score();
        promise20FromNowOn();
        promise21Place();
        promise21AtTheEnds();
        promise22FromHere();
        promise22AnyLong();
        promise23Mooring();
        promise23AtTheEnds();
        promise23ByItsKind();
        promise24Sooner();
        promise24AtTheEnds();
        promise24GoingRound();
        promise25FitSpeed();
        promise25AtTheEnds();
        promise26FromWhere();
        promise26AtTheEnds();
        promise27WhereFrom();
        promise28Strokes();
        nothingGoesBy();
        askedOneBehindAnother();
        Due.end();
    }

    /** Two BARGES that sing in all BEATS, the one nearer than the other but in one CELL: 63 or 0. */
    private static LagoonOpera onlyIn(int cell) {
        LagoonOpera x = new LagoonOpera();
        x.speed(1);
        Due.boat(x, 10, cell == 0 ? 1 : 62, Due.ALL);
        Due.boat(x, 41, cell, Due.ALL);
        return x;
    }

    // ---- promises 20 to 22

    private static void promise20Score() {
        Edge.range("CELL of score", 0, 63, (x, cell) -> x.score(cell, 9));
        Edge.range("n of score", 0, 128, (x, n) -> x.score(5, n));
        LagoonOpera x = onlyIn(63);
        Due.is("in 0 BEATS", x.score(63, 0), 0);
        Due.is("in one", x.score(63, 1), 1);
        Due.is("in 128", x.score(63, 128), 128);
        Due.is("in none of 128", x.score(62, 128), 0);
        Due.is("in none of 128", x.score(0, 128), 0);
        Due.is("in CELL 0", onlyIn(0).score(0, 128), 128);
        Due.is("without BOATS", new LagoonOpera().score(0, 128), 0);
    }

    private static void promise20FromNowOn() {
        LagoonOpera x = new LagoonOpera();
        for (int i = 0; i < 2; i++) Due.boat(x, 10, 0, Due.bit(0) | Due.bit(5));
        Due.is("this BEAT is the first of them", x.score(0, 1), 1);
        Due.is("ahead of BEAT 5", x.score(0, 5), 1);
        Due.is("with BEAT 5", x.score(0, 6), 2);
        x.beats(1);
        Due.is("BEAT 0 is gone", x.score(0, 4), 0);
        Due.is("up to BEAT 5", x.score(0, 5), 1);
        Due.is("up to BEAT 31", x.score(0, 31), 1);
        Due.is("up to BEAT 32, the next turn", x.score(0, 32), 2);
        Due.is("four turns", x.score(0, 128), 8);
    }

    private static void promise21Place() {
        Edge.range("n of place", 0, 128, (x, n) -> x.place(n));
        LagoonOpera x = new LagoonOpera();
        Due.is("without BOATS: all have 0, the least of them", x.place(128), 0);
        Due.boat(x, 10, 63, Due.ALL);
        Due.boat(x, 10, 63, Due.ALL);
        Due.is("all have 128, the least of them", x.place(128), 0);
        Due.is("in 0 BEATS all have 0", onlyIn(63).place(0), 0);
    }

    private static void promise21AtTheEnds() {
        for (int cell : new int[] {0, 63}) {
            for (int n : new int[] {1, 128}) {
                Due.is("place " + cell, onlyIn(cell).place(n), cell);
                Due.is("fromHere " + cell, onlyIn(cell).fromHere(n), 1L << cell);
            }
        }
        // all but CELLS 0, 1 and 63 are as far: of several the least
        LagoonOpera x = new LagoonOpera();
        Due.text(x, 0, "d=0");
        for (int cell : new int[] {0, 1, 63}) Due.boat(x, 10, cell, Due.ALL);
        Due.is("the least of 61", x.place(7), 2);
        Due.is("61 CELLS", x.fromHere(7), ~(3L | 1L << 63));
    }

    private static void promise22FromHere() {
        Edge.range("n of fromHere", 0, 128, (x, n) -> x.fromHere(n));
        Due.is("in 0 BEATS", onlyIn(63).fromHere(0), -1L);
        Due.is("CELL 63 is the sign", onlyIn(63).fromHere(128), Long.MIN_VALUE);
        Due.is("CELL 0 is 1", onlyIn(0).fromHere(128), 1L);
        Due.is("without BOATS", new LagoonOpera().fromHere(128), -1L);
        LagoonOpera x = Edge.rich();
        Due.is("BEYOND is LOW - 1 as a long", x.fromHere(129), -1000000001L);
    }

    /**
     * The CELLS that are LOW - 1 as bits: BOATS that drift to the south go by all others, and where a BOAT is,
     * its LAG is another one than that of the rest.
     */
    private static void promise22AnyLong() {
        LagoonOpera x = new LagoonOpera();
        Due.text(x, 0, "d=0");
        x.tide(0, 3);
        Due.boat(x, 20, Due.cell(1, 1), Due.ALL);
        Due.boat(x, 20, Due.cell(1, 3), Due.ALL);
        Due.boat(x, 20, Due.cell(2, 4), Due.bit(0) | Due.bit(1));
        Due.boat(x, 20, Due.cell(1, 7), Due.bit(0) | Due.bit(1));
        Due.boat(x, 10, Due.cell(1, 6), Due.ALL);
        Due.boat(x, 10, Due.cell(3, 0), Due.ALL);
        Due.boat(x, 10, Due.cell(3, 5), Due.ALL);
        Due.is("any long, even LOW - 1", x.fromHere(3), -1000000001L);
        Due.is("it is no ERROR", x.told(1), 0);
        Due.is("the least of them", x.place(3), 0);
        Due.is("beyond", x.fromHere(129), -1000000001L);
        Due.is("it is an ERROR", x.told(1), 1);
    }

    // ---- promise 23

    private static void promise23Mooring() {
        Edge.range("BOAT of mooring", 0, 2, (x, v) -> x.mooring(v, 5, 9));
        Edge.range("CELL of mooring", 0, 63, (x, v) -> x.mooring(1, v, 9));
        Edge.range("n of mooring", 0, 128, (x, n) -> x.mooring(1, 5, n));
        Edge.refused("no BOATS", LagoonOpera::new, x -> x.mooring(0, 0, 0), BEYOND);
        LagoonOpera x = onlyIn(63);
        Due.is("in 0 BEATS all are alike", x.mooring(1, 63, 0), 0);
        x.change(0, 3, 0);
        Due.is("none is better", x.mooring(1, 63, 128), 0);
        x.change(0, 3, Due.ALL);
        Due.is("of several the least: those as far from CELL 63", x.mooring(0, 63, 128), Due.cell(6, 6));
        LagoonOpera alone = new LagoonOpera();
        Due.boat(alone, 20, 9, Due.ALL);
        Due.is("a BOAT alone", alone.mooring(0, 0, 128), 0);
    }

    private static void promise23AtTheEnds() {
        for (int cell : new int[] {0, 63}) {
            LagoonOpera x = new LagoonOpera();
            x.speed(1);
            Due.boat(x, 10, cell, Due.ALL);
            Due.boat(x, 10, 27, Due.ALL);
            Due.is("only where the other one lies", x.mooring(1, cell, 128), cell);
            Due.is("its CELL stays", x.ofBoat(1, 2), 27);
        }
    }

    /** It goes on from there by its KIND: a DRIFTER must begin ahead of where it should be heard. */
    private static void promise23ByItsKind() {
        LagoonOpera x = new LagoonOpera();
        x.speed(1);
        x.tide(0, 2);
        Due.boat(x, 10, 5, Due.bit(4));
        Due.boat(x, 10, 40, Due.ALL);
        int[] due = {3, 5, 1, 3, 5, 2, 5};
        for (int kind = 0; kind < 7; kind++) {
            x.become(1, 10 * kind);
            if (kind == 5) x.become(1, 51);
            x.change(1, 3, kind == 6 ? Due.bit(4) : Due.ALL);
            Due.is("KIND " + kind, x.mooring(1, 5, 5), due[kind]);
            Due.is("the CELL that it is in stays", x.ofBoat(1, 2), 40);
        }
    }

    // ---- promise 24

    private static void promise24Sooner() {
        Edge.range("BOAT of sooner", 0, 2, (x, v) -> x.sooner(v, 5, 9));
        Edge.range("CELL of sooner", 0, 63, (x, v) -> x.sooner(1, v, 9));
        Edge.range("n of sooner", 0, 128, (x, n) -> x.sooner(1, 5, n));
        Edge.refused("no BOATS", LagoonOpera::new, x -> x.sooner(0, 0, 0), BEYOND);
        LagoonOpera x = twoNotes(9, 9);
        Due.is("already in time", x.sooner(1, 0, 128), 0);
        Due.is("in 0 BEATS all are alike", twoNotes(9, 10).sooner(1, 0, 0), 0);
        x.change(0, 3, 0);
        Due.is("none is better", x.sooner(1, 0, 128), 0);
        x.change(0, 3, Due.ALL);
        x.change(1, 3, Due.ALL);
        Due.is("all are alike", x.sooner(1, 0, 128), 0);
        x.change(1, 3, 0x55555555);
        x.change(0, 3, 0xaaaaaaaa);
        Due.is("by 1, 3, .. : the least", x.sooner(1, 0, 128), 1);
    }

    private static LagoonOpera twoNotes(int one, int other) {
        LagoonOpera x = new LagoonOpera();
        Due.boat(x, 10, 0, Due.bit(one));
        Due.boat(x, 10, 0, Due.bit(other));
        return x;
    }

    private static void promise24AtTheEnds() {
        for (int by : new int[] {0, 1, 16, 30, 31}) {
            for (int beat : new int[] {0, 1, 15, 31}) {
                LagoonOpera x = twoNotes(beat, (beat + by) % 32);
                Due.is("BEAT " + (beat + by) % 32 + " to " + beat, x.sooner(1, 0, 32), by);
                Due.is("PART stays", x.ofBoat(1, 3), Due.bit((beat + by) % 32));
            }
        }
    }

    private static void promise24GoingRound() {
        LagoonOpera x = twoNotes(31, 0);
        Due.is("BEAT 0 is sung in BEAT 31", x.sooner(1, 0, 128), 1);
        Due.is("BEAT 31 is sung in BEAT 0", x.sooner(0, 0, 128), 31);
        Due.is("but not within 31 BEATS", x.sooner(1, 0, 31), 0);
        x.beats(31);
        Due.is("from BEAT 31 on it is the first", x.sooner(1, 0, 1), 1);
        x.change(1, 3, Due.bit(0) | Due.bit(1));
        x.change(0, 3, Due.bit(31) | Due.bit(0));
        Due.is("both", x.sooner(1, 0, 2), 1);
    }

    // ---- promise 25

    private static void promise25FitSpeed() {
        Edge.range("CELL of fitSpeed", 0, 63, (x, v) -> x.fitSpeed(v, 9));
        Edge.range("n of fitSpeed", 0, 128, (x, n) -> x.fitSpeed(5, n));
        Due.is("in 0 BEATS all are alike", onlyIn(63).fitSpeed(5, 0), 1);
        Due.is("without BOATS", new LagoonOpera().fitSpeed(5, 128), 1);
        LagoonOpera x = new LagoonOpera();
        Due.boat(x, 10, 0, Due.ALL);
        Due.boat(x, 10, 7, Due.ALL);
        x.speed(9);
        Due.is("7 and 0 are alike by 8 and by 9: the least", x.fitSpeed(0, 128), 8);
        Due.is("SPEED stays", x.count(6), 9);
    }

    private static void promise25AtTheEnds() {
        LagoonOpera x = new LagoonOpera();
        Due.boat(x, 10, 0, Due.ALL);
        Due.boat(x, 10, 7, Due.ALL);
        for (int speed = 1; speed <= 9; speed++) {
            Due.text(x, 0, "d*!(s=" + speed + ")");
            Due.is("SPEED " + speed + " alone", x.fitSpeed(0, 128), speed);
        }
        Due.text(x, 0, "d*(s<9)+0*(s=10)");
        Due.is("9 is tried", x.fitSpeed(0, 1), 9);
        Due.text(x, 0, "d*(0<s&s<10)");
        Due.is("neither 0 nor 10 is tried", x.fitSpeed(0, 1), 1);
    }

    // ---- promises 26 and 27

    private static int three(int one, int two, int other) {
        return 4096 * one + 64 * two + other;
    }

    private static void promise26FromWhere() {
        Edge.range("CELLS of fromWhere", 0, 262143, (x, v) -> x.fromWhere(v, 0));
        Edge.range("LAGS of fromWhere", 0, 999999, (x, v) -> x.fromWhere(5, v));
        LagoonOpera x = new LagoonOpera();
        Due.is("by SPEED 2, without BOATS: where it was heard at once", x.fromWhere(three(0, 0, 0), 0), 4);
        Due.text(x, 0, "d+92");
        Due.is("99 is the most: CELL 0 and those 7 from it", x.fromWhere(0, 999999), 15);
        Due.is("99, 98, 99: the last column but its end", x.fromWhere(three(0, 1, 8), 999899), 7);
        Due.is("99, 98, 98: nowhere", x.fromWhere(three(0, 1, 8), 999898), 0);
        Due.text(x, 0, "100");
        Due.is("held within 99", x.fromWhere(0, 999999), 64);
        x.boat(49, 0);
        Due.is("by LAGS alone", x.fromWhere(0, 999999), 64);
    }

    private static void promise26AtTheEnds() {
        LagoonOpera x = new LagoonOpera();
        Due.text(x, 0, "d*10");
        int[] ends = {0, 63};
        for (int one : ends) {
            for (int two : ends) {
                for (int other : ends) {
                    if (one == two && two == other) continue;
                    int cells = three(one, two, other);
                    int lags = 70 * (one == 63 ? 10000 : 0) + 70 * (two == 63 ? 100 : 0) + 70 * (other == 63 ? 1 : 0);
                    Due.is("from CELL 0 to " + cells, x.fromWhere(cells, lags), 1);
                    Due.is("from CELL 0 to " + cells, x.whereFrom(cells, lags, 0), 0);
                    Due.is("from CELL 63 to " + cells, x.fromWhere(cells, 707070 - lags), 1);
                    Due.is("from CELL 63 to " + cells, x.whereFrom(cells, 707070 - lags, 0), 63);
                }
            }
        }
        Due.is("at CELL 0 itself", x.whereFrom(0, 0, 0), 0);
        Due.is("at CELL 63 itself", x.whereFrom(262143, 0, 0), 63);
        Due.is("two borders from CELL 0", x.fromWhere(0, 707070), 15);
        Due.is("two borders from CELL 63", x.fromWhere(262143, 707070), 15);
        Due.text(x, 0, "t");
        x.beats(31);
        Due.is("of this BEAT, 31", x.fromWhere(5, 313131), 64);
        x.beats(1);
        Due.is("of this BEAT, 0", x.fromWhere(5, 0), 64);
    }

    private static void promise27WhereFrom() {
        Edge.range("CELLS of whereFrom", 0, 262143, (x, v) -> x.whereFrom(v, 0, 0));
        for (int lags : new int[] {-1, 1000000, LEAST, MOST}) {
            Edge.refused("LAGS " + lags, x -> x.whereFrom(0, lags, 0), BEYOND);
        }
        for (int i : new int[] {-1, LEAST}) Edge.refused("i " + i, x -> x.whereFrom(0, 0, i), BEYOND);
        for (int i : new int[] {-1, 0, MOST}) {
            Edge.refused("BEYOND is asked ahead of NONE: CELLS", x -> x.whereFrom(262144, 0, i), BEYOND);
            Edge.refused("BEYOND is asked ahead of NONE: CELLS", x -> x.whereFrom(-1, 0, i), BEYOND);
            Edge.refused("BEYOND is asked ahead of NONE: LAGS", x -> x.whereFrom(0, 1000000, i), BEYOND);
            Edge.refused("BEYOND is asked ahead of NONE: LAGS", x -> x.whereFrom(0, -1, i), BEYOND);
        }
        // by SPEED 4 a note is heard at once in all CELLS that are less than 4 from it: CELL 0 has 16 of them
        Due.is("so many", wherever().fromWhere(0, 0), 16);
        Due.is("the first", wherever().whereFrom(0, 0, 0), 0);
        Due.is("the second", wherever().whereFrom(0, 0, 1), 1);
        Due.is("the fifth", wherever().whereFrom(0, 0, 4), 8);
        Due.is("the last", wherever().whereFrom(0, 0, 15), 27);
        for (int i : new int[] {16, 63, 64, MOST}) {
            Edge.refused("there is no " + i + "-th", EdgesInTimeTest::wherever, x -> x.whereFrom(0, 0, i), NONE);
        }
        Edge.refused("there is none at all", EdgesInTimeTest::wherever, x -> x.whereFrom(0, 999999, 0), NONE);
        Edge.refused("none at all, i below 0", EdgesInTimeTest::wherever, x -> x.whereFrom(0, 999999, -1), BEYOND);
        LagoonOpera all = new LagoonOpera();
        all.speed(8);
        for (int i = 0; i < 64; i++) Due.is("all CELLS", all.whereFrom(0, 0, i), i);
        Due.is("no 64th", all.whereFrom(0, 0, 64), NONE);
        Due.text(all, 0, "99");
        Due.is("LAGS 999999", all.whereFrom(0, 999999, 63), 63);
    }

    private static LagoonOpera wherever() {
        LagoonOpera x = Edge.rich();
        x.text(1);
        Due.text(x, 0, "d/s");
        return x;
    }

    // ---- promise 28

    private static void promise28Strokes() {
        Edge.range("BOAT of strokes", 0, 2, (x, v) -> x.strokes(v, 9));
        Edge.range("n of strokes", 0, 128, (x, n) -> x.strokes(1, n));
        Edge.refused("no BOATS", LagoonOpera::new, x -> x.strokes(0, 0), BEYOND);
        LagoonOpera x = new LagoonOpera();
        x.tide(0, 2);
        Due.boat(x, 20, 0, 0);
        Due.is("in 0 BEATS", x.strokes(0, 0), 0);
        Due.is("in 1", x.strokes(0, 1), 1);
        Due.is("in 7", x.strokes(0, 7), 7);
        Due.is("the eighth is at the border", x.strokes(0, 8), 7);
        x.tide(1, 4);
        x.tide(2, 2);
        x.tide(3, 4);
        Due.is("to and fro, four turns", x.strokes(0, 128), 112);
        x.beats(1);
        Due.is("from now on", x.strokes(0, 6), 6);
        Due.is("from now on", x.strokes(0, 7), 6);
        x.become(0, 32);
        x.change(0, 2, 0);
        x.tide(0, 1);
        Due.is("TOWED: north it stays at the border, then the tow to the south", x.strokes(0, 7), 1);
        x.beats(6);
        x.change(0, 2, 8);
        Due.is("north, and the tow to the south in the same BEAT", x.then(1, 0), 8);
        Due.is("it is where it was: no stroke", x.strokes(0, 1), 0);
    }

    private static void nothingGoesBy() {
        Edge.changesNothing("score", x -> x.score(9, 128));
        Edge.changesNothing("place", x -> x.place(128));
        Edge.changesNothing("fromHere", x -> x.fromHere(128));
        Edge.changesNothing("mooring", x -> x.mooring(1, 9, 128));
        Edge.changesNothing("sooner", x -> x.sooner(1, 9, 128));
        Edge.changesNothing("fitSpeed", x -> x.fitSpeed(9, 128));
        Edge.changesNothing("fromWhere", x -> x.fromWhere(9, 0));
        Edge.changesNothing("strokes", x -> x.strokes(1, 128));
        for (int n : new int[] {0, 128}) {
            LagoonOpera x = Edge.last();
            LagoonOpera twin = Edge.last();
            x.score(9, n);
            x.place(n);
            x.fromHere(n);
            x.mooring(1, 9, n);
            x.sooner(1, 9, n);
            x.fitSpeed(9, n);
            x.strokes(1, n);
            Edge.counted("in BEAT 9999", x, twin, 0);
            Look.same("in BEAT 9999", x, twin);
        }
    }

    /** What was asked ahead leaves nothing behind: each answer is that of an object that was asked but this. */
    private static void askedOneBehindAnother() {
        Edge.Act[] asks = {
            x -> x.place(128), x -> x.fromHere(3), x -> x.mooring(1, 63, 9), x -> x.mooring(0, 0, 128), x -> x.sooner(1, 9, 40),
            x -> x.sooner(0, 63, 1), x -> x.fitSpeed(63, 9), x -> x.fitSpeed(0, 128), x -> x.score(63, 128), x -> x.strokes(0, 9),
            x -> x.then(128, 1), x -> x.thenListener(60, 0, 1), x -> x.place(0), x -> x.fromWhere(9, 10000),
        };
        for (Edge.Act first : asks) {
            for (Edge.Act then : asks) {
                LagoonOpera x = oneBetterThanAll();
                first.on(x);
                Due.is("asked behind another", then.on(x), then.on(oneBetterThanAll()));
            }
        }
        // all CELLS, then no CELL, then one: what was most ahead counts no more
        LagoonOpera x = new LagoonOpera();
        for (int i = 0; i < 2; i++) Due.boat(x, 10, 0, Due.ALL);
        x.speed(1);
        Due.is("all CELLS by 128", x.fromHere(128), -1L);
        x.change(0, 2, 63);
        Due.is("then only CELL 63 would do", x.mooring(1, 63, 1), 63);
        x.change(0, 3, Due.bit(1));
        x.change(1, 3, Due.bit(9));
        x.change(1, 2, 63);
        Due.is("then sooner by 8", x.sooner(1, 0, 2), 8);
        Due.text(x, 0, "d*!(s=4)");
        x.change(0, 3, Due.ALL);
        x.change(1, 3, Due.ALL);
        x.change(1, 2, 0);
        Due.is("then SPEED 4", x.fitSpeed(0, 1), 4);
    }

    private static LagoonOpera oneBetterThanAll() {
        LagoonOpera x = new LagoonOpera();
        Due.boat(x, 10, 63, Due.ALL);
        Due.boat(x, 24, 35, 0x7f3f1f0f);
        Due.boat(x, 62, 9, 0x0ff0ff0f);
        x.tide(0, 3);
        x.tide(1, 2);
        x.listener(20);
        Due.text(x, 0, "d/s+(t>20)");
        return x;
    }
}
