/** Sentences that name an edge: BEATS that go by, AHEAD, LOOSE BEATS; promises 16 to 19. A method each. */
public final class EdgesOfBeatsTest {
    private static final int BEYOND = Due.BEYOND;
    private static final int STATE = Due.STATE;
    private static final int LEAST = Edge.LEAST;
    private static final int MOST = Edge.MOST;

    public static void main(String[] args) {
        promise16();
        promise17();
        ahead();
        Due.end();
    }

    private static void promise16() {
        promise16Taken();
        promise16TheLastBeat();
        inTimeIsOneMore();
        coinsGoAsFarAsTheyGo();
        thePurseOfSix();
        listenersHearAheadOfMoves();
        notTogetherPaysToo();
    }

    private static void promise17() {
        promise17Taken();
        promise17TheLastBeat();
        aDrawForEachThatSings();
        zWrapsAndHasNoSign();
        theRestBy6();
        theLostOneByItsNumber();
        lostForAllListeners();
        allAreLost();
        lostOnesMove();
        looseBeatsOneByOne();
    }

    private static void ahead() {
        promise18Then();
        promise18AsBeatsGoBy();
        promise19ThenListener();
        promise19AsBeatsGoBy();
        aheadBeyondBeat9999();
        aheadThereIsNoFog();
        aheadNothingGoesBy();
        theLastBoatAndTheLastListener();
    }

    // ---- promise 16

    private static void promise16Taken() {
        Edge.range("n of beats", 1, 128, (x, n) -> x.beats(n));
        LagoonOpera x = new LagoonOpera();
        Due.is("one BEAT", x.beats(1), 0);
        Due.is("count(0)", x.count(0), 1);
        Due.is("128 BEATS", x.beats(128), 0);
        Due.is("count(0)", x.count(0), 129);
    }

    private static LagoonOpera at(int beat) {
        LagoonOpera x = Edge.rich();
        Edge.goTo(x, beat);
        return x;
    }

    private static void promise16TheLastBeat() {
        for (int n : new int[] {1, 2, 127, 128}) {
            LagoonOpera x = at(9999 - n);
            int purse = x.count(4);
            Due.holds("BEAT 9999 by " + n, x.beats(n) >= purse);
            Due.is("count(0)", x.count(0), 9999);
            Edge.refused("BEAT 10000 by " + n, () -> at(10000 - n), y -> y.beats(n), STATE);
        }
        Edge.refused("one BEAT more than there is", Edge::last, x -> x.beats(1), STATE);
        Edge.refused("128 BEATS more than there are", Edge::last, x -> x.beats(128), STATE);
        for (int n : new int[] {0, 129, -1, LEAST, MOST}) {
            Edge.refused("BEYOND is asked ahead of STATE: " + n, Edge::last, x -> x.beats(n), BEYOND);
        }
    }

    /** Two BOATS that sing in BEATS 0, 1 and 31, and a third one that spoils BEAT 1. */
    private static LagoonOpera threeBoats() {
        LagoonOpera x = new LagoonOpera();
        Due.boat(x, 10, 0, Due.bit(0) | Due.bit(1) | Due.bit(31));
        Due.boat(x, 10, 0, Due.bit(0) | Due.bit(1) | Due.bit(31));
        Due.boat(x, 41, 0, Due.bit(1));
        x.listener(5);
        return x;
    }

    private static void inTimeIsOneMore() {
        LagoonOpera x = threeBoats();
        int[] beats = {0, 1, 2, 31, 32, 33, 34, 63, 64};
        int[] due = {0, 1, 1, 1, 2, 3, 3, 3, 4};
        for (int i = 0; i < beats.length; i++) {
            Edge.goTo(x, beats[i]);
            Due.is("IN TIME ahead of BEAT " + beats[i], x.ofListener(0, 1), due[i]);
            Due.is("COINS ahead of BEAT " + beats[i], x.ofListener(0, 2), 50 - due[i]);
            Due.is("THE PURSE ahead of BEAT " + beats[i], x.count(4), due[i]);
        }
    }

    private static void coinsGoAsFarAsTheyGo() {
        for (int price : new int[] {1, 24, 25, 26, 49, 50, 51, 99}) {
            LagoonOpera x = new LagoonOpera();
            x.listener(0);
            x.listener(1);
            Due.text(x, 1, "" + price);
            int coins = 50;
            for (int beat = 1; beat <= 3; beat++) {
                coins = Math.max(0, coins - price);
                Due.is("THE PURSE by " + price, x.beats(1), 2 * (50 - coins));
                Due.is("COINS of the one", x.ofListener(0, 2), coins);
                Due.is("COINS of the other", x.ofListener(1, 2), coins);
                Due.is("count(5)", x.count(5), 2 * coins);
            }
        }
        LagoonOpera x = new LagoonOpera();
        x.listener(0);
        Due.text(x, 1, "45");
        x.beats(1);
        x.listener(1);
        Due.is("5 of the one, 45 of the other", x.beats(1), 45 + 5 + 45);
        Due.is("nothing of the one, 5 of the other", x.beats(1), 100);
    }

    /** No run of calls can fill THE PURSE up to 999999: six LISTENERS have 300 COINS. */
    private static void thePurseOfSix() {
        LagoonOpera x = new LagoonOpera();
        for (int listener = 0; listener < 6; listener++) x.listener(0);
        Due.is("COINS of six", x.count(5), 300);
        Due.text(x, 1, "7");
        Due.is("7 of each of six", x.beats(1), 42);
        Due.is("all", x.beats(7), 300);
        Due.is("COINS of six", x.count(5), 0);
        Due.is("no more", x.beats(128), 300);
        Due.is("no more by LOOSE BEATS", x.loose(128), 300);
        Due.is("count(4)", x.count(4), 300);
    }

    private static void listenersHearAheadOfMoves() {
        LagoonOpera x = new LagoonOpera();
        x.speed(1);
        Due.boat(x, 20, 0, Due.ALL);
        Due.boat(x, 10, 0, Due.ALL);
        x.listener(0);
        x.tide(0, 2);
        Due.text(x, 1, "t+i*10");
        Due.is("in BEAT 0 they lie together; t is 0", x.beats(1), 10);
        Due.is("then one has drifted", x.ofListener(0, 3), 0);
        Due.is("in BEAT 1 t is 1", x.beats(1), 11);
        Edge.goTo(x, 31);
        int purse = x.count(4);
        Due.is("the COINS went in BEATS 2 to 9", purse, 50);
        Due.is("IN TIME", x.ofListener(0, 1), 1);
    }

    private static void notTogetherPaysToo() {
        LagoonOpera x = new LagoonOpera();
        x.listener(0);
        Due.text(x, 1, "5-i*4");
        Due.is("no BOATS, not TOGETHER", x.beats(1), 5);
        Due.boat(x, 10, 0, Due.ALL);
        Due.boat(x, 10, 0, Due.ALL);
        Due.is("TOGETHER", x.beats(1), 6);
        Due.text(x, 1, "n");
        Due.is("two sing", x.beats(1), 8);
        x.change(0, 3, 0);
        x.change(1, 3, 0);
        Due.is("none sings", x.beats(1), 8);
        x.change(1, 3, Due.ALL);
        Due.is("one sings", x.beats(1), 9);
    }

    // ---- promise 17

    private static void promise17Taken() {
        Edge.range("n of loose", 1, 128, (x, n) -> x.loose(n));
        LagoonOpera x = new LagoonOpera();
        Due.is("one LOOSE BEAT", x.loose(1), 0);
        Due.is("count(0)", x.count(0), 1);
        Due.is("128 LOOSE BEATS", x.loose(128), 0);
        Due.is("count(0)", x.count(0), 129);
    }

    private static void promise17TheLastBeat() {
        for (int n : new int[] {1, 128}) {
            LagoonOpera x = at(9999 - n);
            Due.holds("BEAT 9999 by " + n, x.loose(n) >= 0);
            Due.is("count(0)", x.count(0), 9999);
            Edge.refused("BEAT 10000 by " + n, () -> at(10000 - n), y -> y.loose(n), STATE);
        }
        Edge.refused("one LOOSE BEAT more than there is", Edge::last, x -> x.loose(1), STATE);
        for (int n : new int[] {0, 129, -1, LEAST, MOST}) {
            Edge.refused("BEYOND is asked ahead of STATE: " + n, Edge::last, x -> x.loose(n), BEYOND);
        }
    }

    private static int drawn(int z) {
        return z * 1103515245 + 12345;
    }

    private static int drawn(int z, int times) {
        int last = z;
        for (int i = 0; i < times; i++) last = drawn(last);
        return last;
    }

    private static int rest(int z) {
        return (int) (((z & 0xffffffffL) >> 8) % 6);
    }

    /** The least seed of which the draws leave such rests by 6; -1 is any but 0. */
    private static int seedOf(boolean negative, int... rests) {
        for (int seed = 0; ; seed++) {
            int z = seed;
            boolean so = drawn(seed) < 0 == negative;
            for (int due : rests) {
                z = drawn(z);
                so &= due < 0 ? rest(z) != 0 : rest(z) == due;
            }
            if (so) return seed;
        }
    }

    private static void aDrawForEachThatSings() {
        for (int boats = 0; boats <= 9; boats++) {
            LagoonOpera x = new LagoonOpera();
            for (int boat = 0; boat < 9; boat++) Due.boat(x, 10, boat, boat < boats ? Due.bit(0) | Due.bit(2) : 0);
            x.loose(1);
            Due.is(boats + " sing in BEAT 0", x.count(10), drawn(1, boats));
            x.loose(1);
            Due.is("none sings in BEAT 1", x.count(10), drawn(1, boats));
            x.loose(1);
            Due.is(boats + " sing in BEAT 2", x.count(10), drawn(1, 2 * boats));
            x.loose(32);
            Due.is("a turn of THE PIECE", x.count(10), drawn(1, 4 * boats));
            x.beats(64);
            Due.is("no draws in BEATS", x.count(10), drawn(1, 4 * boats));
        }
    }

    private static LagoonOpera twoHeard(int seed) {
        LagoonOpera x = new LagoonOpera();
        Due.boat(x, 10, 0, Due.ALL);
        Due.boat(x, 10, 0, Due.ALL);
        x.listener(0);
        Due.text(x, 1, "n*10+i");
        x.seed(seed);
        return x;
    }

    private static void zWrapsAndHasNoSign() {
        for (int z : new int[] {LEAST, MOST, -1, 0, 1, 12345, 1103515245}) {
            LagoonOpera x = twoHeard(z);
            int heard = (rest(drawn(z)) == 0 ? 0 : 1) + (rest(drawn(z, 2)) == 0 ? 0 : 1);
            Due.is("heard by z " + z, x.loose(1), 10 * heard + (heard == 2 ? 1 : 0));
            Due.is("z from " + z, x.count(10), drawn(z, 2));
        }
        for (int rest = 0; rest < 6; rest++) {
            int seed = seedOf(true, rest, -1);
            Due.holds("z is negative behind the first draw", drawn(seed) < 0);
            Due.is("a negative z, its rest is " + rest, twoHeard(seed).loose(1), rest == 0 ? 10 : 21);
        }
    }

    private static void theRestBy6() {
        for (int rest = 0; rest < 6; rest++) {
            LagoonOpera first = twoHeard(seedOf(false, rest, -1));
            Due.is("the first draw's rest is " + rest, first.loose(1), rest == 0 ? 10 : 21);
            LagoonOpera second = twoHeard(seedOf(false, -1, rest));
            Due.is("the second draw's rest is " + rest, second.loose(1), rest == 0 ? 10 : 21);
        }
        Due.is("both are lost", twoHeard(seedOf(false, 0, 0)).loose(1), 0);
    }

    /** Of three that sing one is nearer: it is TOGETHER if just that one is lost. */
    private static void theLostOneByItsNumber() {
        for (int nearer = 0; nearer < 3; nearer++) {
            for (int lost = -1; lost < 3; lost++) {
                LagoonOpera x = new LagoonOpera();
                for (int boat = 0; boat < 3; boat++) Due.boat(x, boat == nearer ? 40 : 41, 0, Due.ALL);
                Due.boat(x, 49, 0, 0);
                x.listener(0);
                x.seed(seedOf(false, lost == 0 ? 0 : -1, lost == 1 ? 0 : -1, lost == 2 ? 0 : -1));
                x.loose(1);
                Due.is("BOAT " + nearer + " is nearer, " + lost + " lost", x.ofListener(0, 1), lost == nearer ? 1 : 0);
            }
        }
    }

    private static void lostForAllListeners() {
        LagoonOpera x = twoHeard(seedOf(false, -1, 0));
        for (int listener = 1; listener < 6; listener++) x.listener(listener);
        Due.is("all pay for one", x.loose(1), 60);
        for (int listener = 0; listener < 6; listener++) Due.is("IN TIME", x.ofListener(listener, 1), 0);
        Due.is("a draw for each BOAT, not for each LISTENER", x.count(10), drawn(seedOf(false, -1, 0), 2));
        x.seed(seedOf(false, -1, -1));
        Due.is("all pay for two", x.loose(1), 60 + 6 * 21);
        for (int listener = 0; listener < 6; listener++) Due.is("IN TIME", x.ofListener(listener, 1), 1);
    }

    private static void allAreLost() {
        LagoonOpera x = twoHeard(seedOf(false, 0, 0));
        Due.text(x, 1, "7-n+i");
        Due.is("as if none sang: n is 0", x.loose(1), 7);
        Due.is("not IN TIME", x.ofListener(0, 1), 0);
        LagoonOpera one = new LagoonOpera();
        Due.boat(one, 10, 0, Due.ALL);
        one.listener(0);
        one.seed(seedOf(false, 0));
        Due.text(one, 1, "3+n");
        Due.is("the only one is lost", one.loose(1), 3);
        one.seed(seedOf(false, 1));
        Due.is("the only one is heard", one.loose(1), 7);
    }

    /** Lost ones MOVE as else: ROWED ones MOVE in BEATS in which they sing, heard or not. */
    private static void lostOnesMove() {
        for (int kind = 0; kind < 7; kind++) {
            LagoonOpera x = new LagoonOpera();
            Due.tides(x, 2);
            Due.boat(x, 10 * kind, 0, Due.bit(1));
            x.beats(1);
            x.change(0, 2, 0);
            x.seed(seedOf(false, 0));
            int due = x.then(1, 0);
            x.loose(1);
            Due.is("KIND " + kind + ", lost, MOVES", x.ofBoat(0, 2), due);
            Due.is("a BARGE and an ECHO alone stay", due, kind == 1 || kind == 4 ? 0 : 1);
            Due.is("the draw was made", x.count(10), drawn(seedOf(false, 0)));
        }
    }

    private static void looseBeatsOneByOne() {
        LagoonOpera x = Edge.rich();
        LagoonOpera y = Edge.rich();
        x.loose(128);
        for (int i = 0; i < 64; i++) y.loose(2);
        Look.same("128 LOOSE BEATS are 64 times 2", x, y);
        x = Edge.rich();
        y = Edge.rich();
        x.loose(70);
        for (int i = 0; i < 70; i++) y.loose(1);
        Look.same("70 LOOSE BEATS are 70 times 1", x, y);
        x = Edge.rich();
        y = Edge.rich();
        x.beats(70);
        for (int i = 0; i < 70; i++) y.beats(1);
        Look.same("70 BEATS are 70 times 1", x, y);
    }

    // ---- AHEAD, promises 18 and 19

    private static void promise18Then() {
        Edge.range("n of then", 0, 128, (x, n) -> x.then(n, 1));
        Edge.range("BOAT of then", 0, 2, (x, v) -> x.then(9, v));
        Edge.refused("no BOATS", LagoonOpera::new, x -> x.then(0, 0), BEYOND);
        for (int boat = 0; boat < 3; boat++) {
            LagoonOpera x = Edge.rich();
            Due.is("AHEAD by 0 is now", x.then(0, boat), x.ofBoat(boat, 2));
        }
    }

    private static void promise18AsBeatsGoBy() {
        for (int n : new int[] {1, 2, 24, 25, 26, 127, 128}) {
            LagoonOpera x = Edge.rich();
            int[] due = new int[3];
            for (int boat = 0; boat < 3; boat++) due[boat] = x.then(n, boat);
            x.beats(n);
            for (int boat = 0; boat < 3; boat++) Due.is("BOAT " + boat + " behind " + n, x.ofBoat(boat, 2), due[boat]);
        }
    }

    private static void promise19ThenListener() {
        Edge.range("n of thenListener", 0, 128, (x, n) -> x.thenListener(n, 1, 1));
        Edge.range("LISTENER of thenListener", 0, 1, (x, v) -> x.thenListener(9, v, 1));
        Edge.range("what of thenListener", 0, 3, (x, v) -> x.thenListener(9, 1, v));
        Edge.refused("no LISTENERS", LagoonOpera::new, x -> x.thenListener(0, 0, 0), BEYOND);
        for (int what = 0; what <= 3; what++) {
            LagoonOpera x = Edge.rich();
            Due.is("AHEAD by 0 is now, " + what, x.thenListener(0, 1, what), x.ofListener(1, what));
        }
    }

    private static void promise19AsBeatsGoBy() {
        for (int n : new int[] {1, 2, 24, 25, 26, 127, 128}) {
            LagoonOpera x = Edge.rich();
            int[] due = new int[8];
            for (int i = 0; i < 8; i++) due[i] = x.thenListener(n, i / 4, i % 4);
            x.beats(n);
            for (int i = 0; i < 8; i++) Due.is("LISTENER behind " + n, x.ofListener(i / 4, i % 4), due[i]);
        }
    }

    /** BEAT 9999 and BEAT 15 are one BEAT of THE PIECE: what comes behind them is alike. */
    private static void aheadBeyondBeat9999() {
        LagoonOpera x = drifting(9999);
        LagoonOpera y = drifting(15);
        for (int n : new int[] {0, 1, 16, 17, 127, 128}) {
            for (int boat = 0; boat < 3; boat++) {
                Due.is("then " + n, x.then(n, boat), y.then(n, boat));
                Due.is("strokes " + n, x.strokes(boat, n), y.strokes(boat, n));
                Due.is("mooring " + n, x.mooring(boat, 20, n), y.mooring(boat, 20, n));
                Due.is("sooner " + n, x.sooner(boat, 20, n), y.sooner(boat, 20, n));
            }
            Due.is("TOGETHER behind " + n, x.thenListener(n, 0, 3), y.thenListener(n, 0, 3));
            Due.is("score " + n, x.score(20, n), y.score(20, n));
            Due.is("place " + n, x.place(n), y.place(n));
            Due.is("fromHere " + n, x.fromHere(n), y.fromHere(n));
            Due.is("fitSpeed " + n, x.fitSpeed(20, n), y.fitSpeed(20, n));
        }
        Due.holds("they go on", x.then(128, 0) != x.then(0, 0));
        Due.is("BEAT stays", x.count(0), 9999);
        Due.is("told(1)", x.told(1), 0);
        Due.is("BEYOND, not STATE", x.then(129, 0), BEYOND);
    }

    private static LagoonOpera drifting(int beat) {
        LagoonOpera x = new LagoonOpera();
        Edge.goTo(x, beat);
        for (int phase = 0; phase < 4; phase++) x.tide(phase, 4 - phase);
        Due.boat(x, 24, 35, 0x7f3f1f0f);
        Due.boat(x, 59, 28, Due.ALL);
        Due.boat(x, 62, 9, 0x0ff0ff0f);
        x.listener(20);
        Due.text(x, 0, "d/s+(t>20)");
        return x;
    }

    private static void aheadThereIsNoFog() {
        LagoonOpera x = twoHeard(seedOf(false, 0, 0));
        Due.is("IN TIME AHEAD", x.thenListener(5, 0, 1), 5);
        Due.is("score", x.score(0, 128), 128);
        x.tell(1);
        x.tell(2);
        Due.is("check", x.check(0), 0);
        Due.is("z stays", x.count(10), seedOf(false, 0, 0));
        x.loose(1);
        Due.is("in FOG it isn't IN TIME", x.ofListener(0, 1), 0);
    }

    private static void aheadNothingGoesBy() {
        Edge.changesNothing("then(128, 0)", x -> x.then(128, 0));
        Edge.changesNothing("then(0, 0)", x -> x.then(0, 0));
        Edge.changesNothing("thenListener(128, 0, 2)", x -> x.thenListener(128, 0, 2));
        Edge.changesNothing("thenListener(0, 0, 2)", x -> x.thenListener(0, 0, 2));
        Edge.changesNothing("ofBoat(0, 4)", x -> x.ofBoat(0, 4));
        Edge.changesNothing("ofListener(0, 3)", x -> x.ofListener(0, 3));
        Edge.changesNothing("lag(0, 63)", x -> x.lag(0, 63));
        Edge.changesNothing("as(0, 0)", x -> x.as(0, 0));
        Edge.changesNothing("law(0, 1, 1, 1)", x -> x.law(0, 1, 1, 1));
    }

    /** Nine BOATS and six LISTENERS: the last of them as the first, in BEATS and AHEAD. */
    private static void theLastBoatAndTheLastListener() {
        LagoonOpera x = new LagoonOpera();
        Due.tides(x, 2);
        for (int boat = 0; boat < 9; boat++) Due.boat(x, 20, 8 * (boat % 8), Due.ALL);
        for (int listener = 0; listener < 6; listener++) x.listener(8 * listener);
        Due.text(x, 0, "0");
        Due.text(x, 1, "n");
        Due.is("the ninth, AHEAD", x.then(3, 8), 3);
        Due.is("COINS of the sixth, AHEAD", x.thenListener(3, 5, 2), 50 - 27);
        Due.is("all nine are heard by all six", x.beats(3), 6 * 27);
        for (int boat = 0; boat < 9; boat++) Due.is("BOAT " + boat, x.ofBoat(boat, 2), 8 * (boat % 8) + 3);
        for (int listener = 0; listener < 6; listener++) {
            Due.is("IN TIME of " + listener, x.ofListener(listener, 1), 3);
            Due.is("AHEAD", x.thenListener(4, listener, 1), 7);
            Due.is("COINS of " + listener, x.ofListener(listener, 2), 23);
            Due.is("AHEAD", x.thenListener(4, listener, 2), 0);
        }
        x.loose(1);
        for (int boat = 0; boat < 9; boat++) Due.is("BOAT " + boat, x.ofBoat(boat, 2), 8 * (boat % 8) + 4);
        x.become(8, 41);
        Due.text(x, 0, "d*0");
        Due.is("the ninth comes later: TOGETHER nowhere", x.thenListener(0, 5, 3), 0);
        Due.is("AHEAD, too", x.thenListener(5, 5, 3), 0);
        Due.is("score", x.score(0, 128), 0);
    }
}
