/** Words of the document that leave two readings: the one that was taken (NOTES.md tells them), a method each. */
public final class ReadingsTest {
    private static final int BEYOND = Due.BEYOND;

    public static void main(String[] args) {
        aUseWithoutATextIsHeldToo();
        lateWaitsInEachTurnOfThePiece();
        lostOnesAreNotCountedInPays();
        moveOfNoneFromBehindTheEnd();
        theFaultKnowsNoFiftyBytes();
        unknownBitsAheadOfNBelow0();
        Due.end();
    }

    /** "LAGS .. held within 0 to 99; without a TEXT d by s", and PAYS likewise: held in both cases. */
    private static void aUseWithoutATextIsHeldToo() {
        LagoonOpera x = new LagoonOpera();
        int[][] lags = {
            {98, 1, 98}, {99, 1, 99}, {100, 1, 99}, {1000, 1, 99}, {1000, 10, 99}, {990, 10, 99}, {989, 10, 98}, {-1, 1, 0},
            {1, -1, 0}, {-7, 2, 0}, {-7, -2, 3}, {Edge.MOST, 1, 99}, {Edge.LEAST, 1, 0}, {Edge.LEAST, -1, 0}, {Edge.MOST, 0, 0},
        };
        for (int[] l : lags) Due.is(l[0] + " by " + l[1], x.law(0, l[0], l[1], 0), l[2]);
        int[][] pays = {{0, 0}, {1, 1}, {98, 98}, {99, 99}, {100, 99}, {-1, 0}, {Edge.MOST, 99}, {Edge.LEAST, 0}};
        for (int[] p : pays) Due.is("i " + p[0], x.law(1, 7, p[0], 7), p[1]);
    }

    /** "MOVES behind a BEAT t of THE PIECE .. LATE: as DRIFTER, but not in BEATS below m": of THE PIECE, as t is. */
    private static void lateWaitsInEachTurnOfThePiece() {
        LagoonOpera x = new LagoonOpera();
        Due.tides(x, 2);
        Due.boat(x, 53, 0, 0);
        int[] beats = {0, 2, 3, 31, 32, 34, 35, 63, 64, 66, 67, 9984, 9986, 9987};
        boolean[] moves = {false, false, true, true, false, false, true, true, false, false, true, false, false, true};
        for (int i = 0; i < beats.length; i++) {
            Edge.goTo(x, beats[i]);
            x.change(0, 2, 0);
            Due.is("LATE 3 in BEAT " + beats[i], x.strokes(0, 1), moves[i] ? 1 : 0);
        }
        x.change(0, 2, 0);
        Due.is("AHEAD, too", x.then(128, 0), 7);
    }

    /** "it isn't heard by anybody in that BEAT (as if it didn't sing ..)": nor is it one of n "how many BOATS sing". */
    private static void lostOnesAreNotCountedInPays() {
        for (int lost = 0; lost <= 2; lost++) {
            int seed = 0;
            while (lostOf(seed) != lost) seed++;
            LagoonOpera x = new LagoonOpera();
            for (int boat = 0; boat < 2; boat++) Due.boat(x, 10, 0, Due.ALL);
            x.listener(0);
            Due.text(x, 1, "n*7+1");
            x.seed(seed);
            Due.is(lost + " of two are lost", x.loose(1), 1 + 7 * (2 - lost));
            Due.is("they sing, for all that", x.count(3), 2);
        }
    }

    private static int lostOf(int seed) {
        int one = seed * 1103515245 + 12345;
        int two = one * 1103515245 + 12345;
        return ((one >>> 8) % 6 == 0 ? 1 : 0) + ((two >>> 8) % 6 == 0 ? 1 : 0);
    }

    /** "or they don't stand there": behind the end not even none do, right at the end they do. */
    private static void moveOfNoneFromBehindTheEnd() {
        for (int length : new int[] {0, 1, 5, 40}) {
            LagoonOpera x = new LagoonOpera();
            x.sheet(0, 8, length);
            x.sheet(1, 8, length);
            Due.is("none, from the end", x.move(0, length, 1, 0, 0), 0);
            Due.is("none, to the end", x.move(0, 0, 1, length, 0), 0);
            Due.is("none, from behind the end", x.move(0, length + 1, 1, 0, 0), BEYOND);
            Due.is("none, to behind the end", x.move(0, 0, 1, length + 1, 0), BEYOND);
            Due.is("none, in itself", x.move(0, length + 1, 0, 0, 0), BEYOND);
            Due.is("told(1)", x.told(1), 3);
        }
    }

    /** "the first byte with which no TEXT goes on": the grammar alone, not the 50 bytes of THE TAPE, tells what goes on. */
    private static void theFaultKnowsNoFiftyBytes() {
        LagoonOpera x = new LagoonOpera();
        Due.is("a + as the 50th byte ends too early", Due.text(x, 0, "12" + "3+".repeat(24)), -60);
        Due.is("a ( as the 50th byte ends too early", Due.text(x, 0, "12" + "+d".repeat(23) + "+("), -60);
        Due.is("five open ones with two bytes left", Due.text(x, 0, "d+".repeat(22) + "(((((1"), -60);
    }

    /** "BEYOND. STATE: n is below 0 (ahead of BEYOND of n)": BEYOND of the SHEET and of bits come ahead of STATE. */
    private static void unknownBitsAheadOfNBelow0() {
        LagoonOpera x = new LagoonOpera();
        Due.is("bits, then n", x.sheet(0, 9, -1), BEYOND);
        Due.is("SHEET, then n", x.sheet(4, 8, -1), BEYOND);
        Due.is("n below 0", x.sheet(0, 8, -1), Due.STATE);
        Due.is("n above 40", x.sheet(0, 8, 41), BEYOND);
        Due.is("bits 0: n doesn't matter", x.sheet(0, 0, -1), 1);
    }
}
