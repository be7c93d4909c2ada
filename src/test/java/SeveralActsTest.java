import java.io.IOException;
import java.nio.file.Files;
import java.nio.file.Path;
import java.util.regex.Matcher;
import java.util.regex.Pattern;

/** What several acts do one after the other, a method each: told by the document in more than one place. */
public final class SeveralActsTest {
    private static final int BEYOND = Due.BEYOND;
    private static final int NONE = Due.NONE;
    private static final int STATE = Due.STATE;
    private static final int FULL = Due.FULL;
    private static final int KIND = Due.KIND;

    public static void main(String[] args) throws IOException {
        texts();
        theTape();
        images();
        ahead();
        numbersThatWait();
        sheets();
        errors();
        asReadmeTells();
        Due.end();
    }

    private static void texts() {
        lagsInPlaceOfOneAhead();
        paysInPlaceOfOneAhead();
        aTextIsReadAnew();
        aFaultLeavesTheOneAhead();
    }

    private static void theTape() {
        behindAFaultItBeginsAnew();
        behindAFaultThereIsRoom();
        behindARefusedUseItGoesOn();
        behindFullItIsAText();
        oneTapeForBothUses();
    }

    private static void images() {
        restoreTakesEachActBack();
        restoreGivesBackBeingWithoutATexts();
        restoreGivesBackTheTape();
        restoreGivesBackTheDraws();
        anImageOfWhatWasRestored();
        restoreLeavesSheetsAndTrace();
        aRefusedRestoreLeavesAll();
    }

    private static void ahead() {
        askingLeavesAll();
        scoreIsWhatBecomesInTime();
        placeIsWhereToRowAnAudience();
        mooringIsWhereToLie();
        soonerIsHowToSing();
        fitSpeedIsWhichToTake();
        strokesAreCountedBeatByBeat();
        fromWhereIsHeardSo();
    }

    private static void numbersThatWait() {
        theyWaitThroughBeats();
        theyAreHeldAgainstWhatIsNow();
        noneWaitBehindACheck();
        theTwentyFirstDoesNotWait();
        theyComeBackWithAnImage();
    }

    private static void sheets() {
        aSheetOfWhatComes();
        aPartByASheetMovesARowedOne();
        sheetsGoOnOneFromAnother();
        aSheetAnewIsAnother();
    }

    private static void errors() {
        refusedOnesLeaveAll();
        eachErrorIsTold();
        voicesOneBehindAnother();
    }

    // ---- a TEXT in place of one ahead

    /** Two BARGES that always sing, 2 and 5 from CELL 2 where a LISTENER is; SPEED 1. */
    private static LagoonOpera twoAndFive() {
        LagoonOpera x = new LagoonOpera();
        x.speed(1);
        Due.boat(x, 10, 0, Due.ALL);
        Due.boat(x, 10, 7, Due.ALL);
        x.listener(2);
        return x;
    }

    /** Each answer that LAGS have a part in. */
    private static void heard(LagoonOpera x, String when, int one, int other) {
        int together = one == other ? 1 : 0;
        Due.is(when + ": lag of the one", x.lag(0, 2), one);
        Due.is(when + ": lag of the other", x.lag(1, 2), other);
        Due.is(when + ": law of the one", x.law(0, 2, 1, 0), one);
        Due.is(when + ": law of the other", x.law(0, 5, 1, 0), other);
        Due.is(when + ": ofListener", x.ofListener(0, 3), together);
        Due.is(when + ": thenListener", x.thenListener(9, 0, 3), together);
        Due.is(when + ": IN TIME AHEAD", x.thenListener(9, 0, 1) - x.ofListener(0, 1), 9 * together);
        Due.is(when + ": score", x.score(2, 9), 9 * together);
        Due.is(when + ": fromHere", (x.fromHere(9) >>> 2) & 1, together);
        Due.is(when + ": from CELL 0", x.whereFrom(4096 * 2 + 64 * 2 + 2, 10101 * one, 0) == 0 ? 1 : 0, 1);
        int inTime = x.ofListener(0, 1);
        x.tell(inTime + together);
        Due.is(when + ": check", x.check(0), 0);
        x.beats(1);
        Due.is(when + ": beats", x.ofListener(0, 1), inTime + together);
    }

    private static void lagsInPlaceOfOneAhead() {
        LagoonOpera x = twoAndFive();
        heard(x, "without a TEXT", 2, 5);
        Due.is("a TEXT", Due.text(x, 0, "d%3"), 1);
        heard(x, "d%3", 2, 2);
        Due.is("a FAULT", Due.text(x, 0, "d%"), -12);
        heard(x, "d%3 behind a FAULT", 2, 2);
        Due.is("a TEXT in place of it", Due.text(x, 0, "d*s"), 1);
        heard(x, "d*s", 2, 5);
        Due.is("a shorter one", Due.text(x, 0, "9"), 1);
        heard(x, "9", 9, 9);
        Due.is("a longer one", Due.text(x, 0, "(d=2)*40+(d=5)*30+3"), 1);
        heard(x, "a longer one", 43, 33);
        Due.is("PAYS are another USE", Due.text(x, 1, "0"), 1);
        heard(x, "a longer one, still", 43, 33);
    }

    private static void paysInPlaceOfOneAhead() {
        LagoonOpera x = twoAndFive();
        Due.text(x, 0, "0");
        Due.is("without a TEXT: 1, if it is TOGETHER", x.beats(2), 2);
        Due.text(x, 1, "n+3");
        Due.is("n+3", x.beats(2), 12);
        Due.is("a FAULT", Due.text(x, 1, "n+d"), -12);
        Due.is("n+3, still", x.beats(1), 17);
        Due.text(x, 1, "i*2");
        Due.is("i*2", x.beats(1), 19);
        Due.text(x, 0, "d");
        Due.is("LAGS in place of one ahead: not TOGETHER", x.beats(1), 19);
        Due.text(x, 1, "5-i*5");
        Due.is("5, if it isn't TOGETHER", x.beats(1), 24);
        Due.is("COINS", x.ofListener(0, 2), 26);
        Due.is("IN TIME", x.ofListener(0, 1), 6);
    }

    /** An object with a TEXT in place of others is as one that had it alone. */
    private static void aTextIsReadAnew() {
        String[] texts = {"t", "1|t", "(((((t)))))", "12" + "+t".repeat(24), "!t", "t/0", "9999%t"};
        for (int use = 0; use <= 1; use++) {
            for (String one : texts) {
                for (String other : texts) {
                    LagoonOpera x = Edge.rich();
                    LagoonOpera twin = Edge.rich();
                    x.text(1);
                    twin.text(1);
                    Due.is(one, Due.text(x, use, one), 1);
                    x.place(3);
                    Due.is(other, Due.text(x, use, other), 1);
                    Due.text(twin, use, other);
                    Look.same(other + " in place of " + one, x, twin);
                }
            }
        }
    }

    private static void aFaultLeavesTheOneAhead() {
        String[] faults = {"", "?", "t+", "12345", "t<t<t", "((((((t))))))", "!!!!!!t", "t)", "(t", "12" + "+t".repeat(23) + "+?"};
        for (int use = 0; use <= 1; use++) {
            for (String fault : faults) {
                LagoonOpera x = Edge.rich();
                LagoonOpera twin = Edge.rich();
                x.text(use);
                twin.text(use);
                Due.holds(fault + " is a FAULT", Due.text(x, use, fault) <= -10);
                Look.same("behind " + fault, x, twin);
            }
        }
    }

    // ---- THE TAPE

    private static void behindAFaultItBeginsAnew() {
        LagoonOpera x = new LagoonOpera();
        Due.is("three bytes", Due.feed(x, "d+)"), 3);
        Due.is("a FAULT at the third", x.text(0), -12);
        Due.is("one byte", Due.feed(x, "s"), 1);
        Due.is("it is a TEXT", x.text(0), 1);
        Due.is("what it gives", x.law(0, 30, 4, 0), 4);
        Due.is("bytes behind a FAULT don't wait", Due.text(x, 0, "d+)+d+s+t"), -12);
        Due.is("THE TAPE is empty", x.text(0), -10);
        Due.is("the place of a second FAULT is its own", Due.text(x, 0, "d)"), -11);
        Due.is("it ends too early by its own count", Due.text(x, 0, "d+s+"), -14);
        Due.is("the one ahead stays through all of them", x.law(0, 30, 4, 0), 4);
    }

    private static void behindAFaultThereIsRoom() {
        LagoonOpera x = new LagoonOpera();
        for (int times = 0; times < 3; times++) {
            Due.is("50 bytes", Due.feed(x, "d+".repeat(25)), 50);
            Due.is("no room", x.feed('d', 1), FULL);
            Due.is("they end too early", x.text(0), -60);
            Due.is("room", x.feed('d', 1), 1);
            Due.is("count(7)", x.count(7), 1);
            Due.is("a TEXT", x.text(0), 1);
        }
    }

    private static void behindARefusedUseItGoesOn() {
        LagoonOpera x = new LagoonOpera();
        Due.feed(x, "d+");
        Due.is("no such USE", x.text(2), BEYOND);
        Due.is("no such USE", x.text(-1), BEYOND);
        Due.is("THE TAPE stays", Due.feed(x, "s"), 3);
        Due.is("a TEXT of all three", x.text(0), 1);
        Due.is("what it gives", x.law(0, 5, 6, 7), 11);
    }

    private static void behindFullItIsAText() {
        LagoonOpera x = new LagoonOpera();
        Due.feed(x, "12" + "+d".repeat(24));
        Due.is("no room", Due.feed(x, "+++"), FULL);
        Due.is("what there was is a TEXT", x.text(0), 1);
        Due.is("what it gives", x.law(0, 2, 0, 0), 60);
        Due.feed(x, "d+".repeat(22) + "123");
        Due.is("no room for four", Due.feed(x, "+999"), FULL);
        Due.is("room for three", Due.feed(x, "+s4".substring(0, 2)), 49);
        Due.is("room for one", x.feed('?', 1), 50);
        Due.is("a FAULT at the last byte", x.text(0), -59);
    }

    private static void oneTapeForBothUses() {
        LagoonOpera x = new LagoonOpera();
        Due.feed(x, "d");
        Due.is("d is no NAME of PAYS", x.text(1), -10);
        Due.is("nor is it there any more", x.text(0), -10);
        Due.feed(x, "t");
        Due.is("t of PAYS", x.text(1), 1);
        Due.is("it is there for one USE alone", x.text(0), -10);
        Due.is("PAYS", x.law(1, 1, 2, 3), 3);
        Due.is("LAGS, without a TEXT still", x.law(0, 9, 2, 3), 4);
    }

    // ---- an IMAGE and what restore() gives back

    private static void restoreTakesEachActBack() {
        Edge.Act[] acts = {
            x -> x.tide(0, 1), x -> x.tide(3, 0), x -> x.speed(9), x -> x.boat(11, 40), x -> x.change(0, 2, 63),
            x -> x.change(1, 3, 0), x -> x.become(2, 69), x -> x.listener(9), x -> x.row(1, 0), x -> x.feed('9', 1),
            x -> x.text(0), x -> x.text(1), x -> Due.text(x, 0, "7"), x -> Due.text(x, 1, "7"), x -> x.beats(1), x -> x.beats(128),
            x -> x.loose(1), x -> x.loose(128), x -> x.seed(0), x -> x.part(0, 0), x -> x.tell(5), x -> x.check(0),
            x -> x.thenListener(9, 0, 1), x -> x.place(9), x -> x.mooring(0, 9, 9), x -> x.sooner(1, 9, 9), x -> x.fitSpeed(9, 9),
            x -> x.restore(),
        };
        for (int i = 0; i < acts.length; i++) {
            LagoonOpera x = Edge.rich();
            LagoonOpera twin = Edge.rich();
            x.image();
            twin.image();
            acts[i].on(x);
            for (Edge.Act act : acts) if (i % 2 == 0) act.on(x);
            Due.is("BEAT", x.restore(), 7);
            Look.same("restored behind act " + i, x, twin);
        }
    }

    /** As Edge.rich() is by an IMAGE; here an object without TEXTS is given back. */
    private static void restoreGivesBackBeingWithoutATexts() {
        LagoonOpera x = twoAndFive();
        x.image();
        Due.text(x, 0, "9");
        Due.text(x, 1, "n");
        x.lag(0, 2);
        Due.is("n", x.beats(1), 2);
        Due.is("BEAT", x.restore(), 0);
        Due.is("PAYS without a TEXT", x.law(1, 5, 1, 0), 1);
        heard(x, "LAGS without a TEXT", 2, 5);
        Due.text(x, 0, "d%3");
        x.image();
        Due.text(x, 0, "d");
        x.lag(0, 2);
        x.restore();
        heard(x, "d%3 again", 2, 2);
        x.restore();
        heard(x, "d%3 once more", 2, 2);
    }

    private static void restoreGivesBackTheTape() {
        LagoonOpera x = new LagoonOpera();
        Due.feed(x, "d+");
        x.image();
        Due.is("a FAULT", x.text(0), -12);
        x.restore();
        Due.is("the bytes are there again", x.count(7), 2);
        Due.is("and go on", Due.feed(x, "s*2"), 5);
        Due.is("a TEXT", x.text(0), 1);
        Due.is("d+s*2", x.law(0, 1, 3, 0), 7);
        x.restore();
        Due.is("a FAULT once more", x.text(0), -12);
        Due.is("and without a TEXT, as it was", x.law(0, 7, 3, 0), 2);
        x.image();
        Due.feed(x, "t".repeat(50));
        x.restore();
        Due.is("an empty TAPE", x.text(0), -10);
    }

    private static void restoreGivesBackTheDraws() {
        LagoonOpera x = Edge.rich();
        x.image();
        int first = x.loose(9);
        int z = x.count(10);
        x.loose(5);
        x.restore();
        Due.is("the same draws", x.loose(9), first);
        Due.is("the same z", x.count(10), z);
        x.seed(4);
        x.image();
        x.loose(9);
        x.restore();
        Due.is("z as told", x.seed(1), 4);
    }

    private static void anImageOfWhatWasRestored() {
        LagoonOpera x = new LagoonOpera();
        x.boat(20, 0);
        x.tide(0, 2);
        Due.is("the first IMAGE", x.image(), 1);
        x.beats(3);
        Due.is("the second one", x.image(), 2);
        x.beats(3);
        Due.is("restore: the second one", x.restore(), 3);
        Due.is("CELL", x.ofBoat(0, 2), 3);
        Due.is("the third one is as the second", x.image(), 3);
        x.tide(0, 3);
        x.beats(2);
        Due.is("CELL", x.ofBoat(0, 2), 19);
        for (int times = 0; times < 3; times++) {
            Due.is("restore: the third one", x.restore(), 3);
            Due.is("CELL", x.ofBoat(0, 2), 3);
            Due.is("to the east", x.then(2, 0), 5);
            x.beats(1);
        }
        Due.is("the fourth one", x.image(), 4);
        Due.is("restore: the fourth one", x.restore(), 4);
        Due.is("CELL", x.ofBoat(0, 2), 4);
    }

    private static void restoreLeavesSheetsAndTrace() {
        LagoonOpera x = Edge.rich();
        x.image();
        x.voice(2, 1, 9);
        int bodies = x.count(9);
        Edge.laid(x, 3, 32, 5, 6, 7);
        x.sheet(0, 0, 0);
        int told = x.told(1);
        x.tide(4, 0);
        x.restore();
        Due.is("BODIES", x.count(9), bodies);
        Due.is("the first of them", x.trace(0), 50);
        Due.is("a SHEET that wasn't there", x.part(3, 0), 3);
        Due.is("what it says", x.ofBoat(0, 3), 1 << 5 | 1 << 6 | 1 << 7);
        Due.is("a SHEET that is missing", x.part(0, 0), NONE);
        Due.is("told(1)", x.told(1), told + 1);
        Due.is("how often", x.image(), 3);
        x.restore();
        Due.is("the PART told by a SHEET is in the IMAGE", x.ofBoat(0, 3), 1 << 5 | 1 << 6 | 1 << 7);
    }

    private static void aRefusedRestoreLeavesAll() {
        LagoonOpera x = twoAndFive();
        LagoonOpera twin = twoAndFive();
        Due.feed(x, "d%3");
        Due.feed(twin, "d%3");
        x.tell(5);
        twin.tell(5);
        Due.is("none", x.restore(), NONE);
        Due.is("none", x.restore(), NONE);
        Due.is("told(2)", x.told(2), 2);
        Look.same("behind a refused restore", x, twin);
    }

    // ---- AHEAD

    private static void askingLeavesAll() {
        Edge.changesNothing("whereFrom", x -> x.whereFrom(37449, 0, 0));
        Edge.changesNothing("trace", x -> x.trace(0));
        for (int what = 0; what <= 10; what++) {
            int asked = what;
            Edge.changesNothing("count(" + what + ")", x -> x.count(asked));
        }
        for (int k = 1; k <= 5; k++) {
            int asked = k;
            Edge.changesNothing("told(" + k + ")", x -> x.told(asked));
        }
    }

    /** How often a LISTENER who is rowed to the CELL is IN TIME in n BEATS that go by. */
    private static int wentBy(LagoonOpera x, int cell, int n) {
        x.row(0, cell);
        int was = x.ofListener(0, 1);
        if (n > 0) x.beats(n);
        return x.ofListener(0, 1) - was;
    }

    private static void scoreIsWhatBecomesInTime() {
        for (int n : new int[] {0, 1, 5, 32, 128}) {
            for (int cell : new int[] {0, 12, 27, 30, 63}) {
                Due.is("score of " + cell + " by " + n, Edge.rich().score(cell, n), wentBy(Edge.rich(), cell, n));
            }
        }
    }

    private static void placeIsWhereToRowAnAudience() {
        for (int n : new int[] {1, 5, 32, 128}) {
            int place = Edge.rich().place(n);
            long cells = Edge.rich().fromHere(n);
            int most = wentBy(Edge.rich(), place, n);
            for (int cell = 0; cell < 64; cell++) {
                int there = wentBy(Edge.rich(), cell, n);
                Due.is("CELL " + cell + " by " + n + " has as many", (cells >>> cell) & 1, there == most ? 1 : 0);
                Due.holds("CELL " + cell + " by " + n + " has no more", there < most || there == most && cell >= place);
            }
        }
    }

    /** Two that drift and one that is moored, none of them where it should be. */
    private static LagoonOpera astray() {
        LagoonOpera x = new LagoonOpera();
        for (int phase = 0; phase < 4; phase++) x.tide(phase, 1 + (phase + 1) % 4);
        Due.boat(x, 20, 9, 0x00ff0ff3);
        Due.boat(x, 62, 20, 0x0ff0f0f3);
        Due.boat(x, 11, 36, 0x33333337);
        x.listener(12);
        x.beats(3);
        return x;
    }

    private static void mooringIsWhereToLie() {
        for (int boat = 0; boat < 3; boat++) {
            int best = astray().mooring(boat, 27, 40);
            LagoonOpera moored = astray();
            moored.change(boat, 2, best);
            int most = wentBy(moored, 27, 40);
            Due.holds("it is worth it", most > 0);
            for (int cell = 0; cell < 64; cell++) {
                LagoonOpera x = astray();
                x.change(boat, 2, cell);
                int there = wentBy(x, 27, 40);
                Due.holds("BOAT " + boat + " from " + cell, there < most || there == most && cell >= best);
            }
        }
    }

    private static void soonerIsHowToSing() {
        for (int boat = 0; boat < 3; boat++) {
            int best = astray().sooner(boat, 27, 40);
            int most = wentBy(sungSooner(boat, best), 27, 40);
            Due.holds("it is worth it", most > 0);
            for (int by = 0; by < 32; by++) {
                int so = wentBy(sungSooner(boat, by), 27, 40);
                Due.holds("BOAT " + boat + " by " + by, so < most || so == most && by >= best);
            }
        }
    }

    private static LagoonOpera sungSooner(int boat, int by) {
        LagoonOpera x = astray();
        int part = x.ofBoat(boat, 3);
        int sooner = 0;
        for (int t = 0; t < 32; t++) if ((part >>> t & 1) == 1) sooner |= 1 << Math.floorMod(t - by, 32);
        x.change(boat, 3, sooner);
        return x;
    }

    private static void fitSpeedIsWhichToTake() {
        for (int cell : new int[] {0, 7, 27, 36, 63}) {
            int best = astray().fitSpeed(cell, 40);
            LagoonOpera fit = astray();
            fit.speed(best);
            int most = wentBy(fit, cell, 40);
            for (int speed = 1; speed <= 9; speed++) {
                LagoonOpera x = astray();
                x.speed(speed);
                int so = wentBy(x, cell, 40);
                Due.holds("SPEED " + speed + " for " + cell, so < most || so == most && speed >= best);
            }
        }
    }

    private static void strokesAreCountedBeatByBeat() {
        for (int boat = 0; boat < 3; boat++) {
            LagoonOpera x = astray();
            int strokes = 0;
            for (int n = 0; n <= 40; n++) {
                Due.is("strokes by " + n, astray().strokes(boat, n), strokes);
                int was = x.ofBoat(boat, 2);
                x.beats(1);
                if (x.ofBoat(boat, 2) != was) strokes++;
            }
            Due.holds("but a BARGE they MOVE", strokes > 0 == (boat < 2));
        }
    }

    /** A BARGE that lies in a CELL is heard by three LISTENERS with such LAGS: that CELL is among those it is. */
    private static void fromWhereIsHeardSo() {
        for (int cell = 0; cell < 64; cell++) {
            LagoonOpera x = new LagoonOpera();
            x.speed(1);
            x.boat(10, cell);
            int lags = 10000 * x.lag(0, 3) + 100 * x.lag(0, 32) + x.lag(0, 63);
            int cells = 4096 * 3 + 64 * 32 + 63;
            int many = x.fromWhere(cells, lags);
            boolean there = false;
            int last = -1;
            for (int i = 0; i < many && i < 64; i++) {
                int from = x.whereFrom(cells, lags, i);
                Due.holds("in order", from > last);
                last = from;
                there |= from == cell;
                x.change(0, 2, from);
                Due.is("heard so", 10000 * x.lag(0, 3) + 100 * x.lag(0, 32) + x.lag(0, 63), lags);
            }
            Due.holds("from CELL " + cell, there);
            Due.is("no more", x.whereFrom(cells, lags, many), NONE);
        }
    }

    // ---- numbers that wait

    /** Two BARGES in a CELL that sing in even BEATS, and a LISTENER: IN TIME in BEATS 0, 2, 4, .. */
    private static LagoonOpera evenBeats() {
        LagoonOpera x = new LagoonOpera();
        Due.boat(x, 10, 5, 0x55555555);
        Due.boat(x, 10, 5, 0x55555555);
        x.listener(5);
        return x;
    }

    private static void tellAll(LagoonOpera x, int... numbers) {
        for (int v : numbers) x.tell(v);
    }

    private static void theyWaitThroughBeats() {
        LagoonOpera x = evenBeats();
        tellAll(x, 1, 1, 2);
        Due.is("behind 1, 2, 3 BEATS from BEAT 0 on", x.check(0), 0);
        tellAll(x, 1, 2, 2);
        x.beats(1);
        Due.is("they wait", x.count(8), 3);
        Due.is("behind 1, 2, 3 BEATS from BEAT 1 on", x.check(0), 0);
        tellAll(x, 1, 1, 2);
        Due.is("the second isn't so from BEAT 1 on", x.check(0), 2);
        tellAll(x, 1);
        x.loose(1);
        Due.is("through LOOSE BEATS, too", x.tell(9), 2);
        Due.is("BEAT 2 is IN TIME", x.check(0), 1);
    }

    private static void theyAreHeldAgainstWhatIsNow() {
        LagoonOpera x = evenBeats();
        x.listener(6);
        tellAll(x, 1, 2, 3);
        x.change(0, 3, Due.ALL);
        x.change(1, 3, Due.ALL);
        Due.is("a PART of now", x.check(0), 0);
        tellAll(x, 0, 0, 0);
        x.become(1, 41);
        Due.is("a KIND of now", x.check(1), 0);
        tellAll(x, 1, 2, 3);
        Due.text(x, 0, "d+t");
        Due.is("LAGS of now", x.check(0), 1);
        tellAll(x, 1, 2, 3);
        x.become(1, 10);
        Due.is("a KIND of now", x.check(0), 0);
        tellAll(x, 0);
        x.change(1, 2, 3);
        Due.is("CELLS of now", x.check(0), 0);
        tellAll(x, 1);
        x.row(0, 4);
        Due.is("where the LISTENER is now", x.check(0), 0);
        Due.is("nothing went by", x.count(0), 0);
    }

    private static void noneWaitBehindACheck() {
        LagoonOpera x = evenBeats();
        tellAll(x, 1, 9, 2);
        Due.is("the second isn't so", x.check(0), 2);
        Due.is("the third doesn't wait any more", x.check(0), 0);
        Due.is("the next is the first", x.tell(1), 1);
        Due.is("and so it is", x.check(0), 0);
        tellAll(x, 9, 9);
        Due.is("no such LISTENER", x.check(1), BEYOND);
        Due.is("none wait then, too", x.check(0), 0);
        Due.is("the next is the first", x.tell(1), 1);
        Due.is("and so it is", x.check(0), 0);
        Due.is("told(1)", x.told(1), 1);
    }

    private static void theTwentyFirstDoesNotWait() {
        LagoonOpera x = evenBeats();
        for (int k = 1; k <= 20; k++) x.tell((k + 1) / 2);
        Due.is("20 wait", x.tell(-1), FULL);
        Due.is("20 wait", x.tell(-1), FULL);
        Due.is("the 20 are so", x.check(0), 0);
        Due.is("there is room", x.tell(1), 1);
        Due.is("told(4)", x.told(4), 2);
    }

    private static void theyComeBackWithAnImage() {
        LagoonOpera x = evenBeats();
        tellAll(x, 1, 1);
        x.image();
        Due.is("they are so", x.check(0), 0);
        tellAll(x, 7, 7, 7);
        Due.is("BEAT", x.restore(), 0);
        Due.is("two wait", x.count(8), 2);
        Due.is("a third", x.tell(3), 3);
        Due.is("the third isn't so", x.check(0), 3);
        x.restore();
        x.beats(1);
        Due.is("the second isn't so from BEAT 1 on", x.check(0), 2);
        Due.is("none wait", x.check(0), 0);
        x.image();
        tellAll(x, 7);
        x.restore();
        Due.is("none wait in an IMAGE of none", x.check(0), 0);
    }

    // ---- SHEETS

    private static void aSheetOfWhatComes() {
        for (int bits : new int[] {8, 16, 32}) {
            LagoonOpera x = astray();
            x.sheet(1, bits, 10);
            for (int k = 0; k < 10; k++) x.put(1, k, x.then(k, 0));
            Due.is("all are so", x.judge(1, 0), 10);
            x.beats(1);
            Due.is("one BEAT later the first isn't", x.judge(1, 0), 0);
            Due.is("one number on they are so again", x.move(1, 1, 1, 0, 9), 9);
            Due.is("but the last", x.judge(1, 0), 9);
            x.put(1, 9, x.then(9, 0));
            Due.is("all are so", x.judge(1, 0), 10);
        }
    }

    /** "up to the first that isn't 0 to 31", and where a ROWED one sings it MOVES. */
    private static void aPartByASheetMovesARowedOne() {
        LagoonOpera x = new LagoonOpera();
        Due.tides(x, 2);
        x.boat(60, 0);
        Edge.laid(x, 0, 8, 1, 3, 40, 5);
        Due.is("it sings in two BEATS", x.part(0, 0), 2);
        Due.is("it MOVES in them", x.strokes(0, 32), 2);
        x.put(0, 2, 9);
        Due.is("the SHEET alone changes nothing", x.strokes(0, 32), 2);
        Due.is("it sings in four", x.part(0, 0), 4);
        Due.is("it MOVES in them", x.then(32, 0), 4);
        Edge.laid(x, 1, 32, 0, 0, 0, 1);
        Due.is("CELLS behind 0 to 3 BEATS", x.judge(1, 0), 2);
    }

    private static void sheetsGoOnOneFromAnother() {
        LagoonOpera x = new LagoonOpera();
        x.boat(10, 0);
        Edge.laid(x, 0, 16, 1, 2, 3);
        x.sheet(1, 16, 5);
        Due.is("three come", x.move(0, 0, 1, 2, 3), 3);
        x.put(0, 0, 31);
        Due.is("what came stays as it was", x.part(1, 0), 4);
        Due.is("PART", x.ofBoat(0, 3), 1 | 1 << 1 | 1 << 2 | 1 << 3);
        Due.is("two go back", x.move(1, 0, 0, 1, 2), 2);
        x.part(0, 0);
        Due.is("PART", x.ofBoat(0, 3), 1 << 31 | 1);
        x.sheet(1, 8, 5);
        Due.is("unlike bits now", x.move(0, 0, 1, 0, 1), KIND);
        x.sheet(1, 0, 5);
        Due.is("missing now", x.move(0, 0, 1, 0, 1), NONE);
        x.sheet(1, 16, 2);
        Due.is("shorter now", x.move(0, 0, 1, 0, 3), BEYOND);
        Due.is("two", x.move(0, 1, 1, 0, 2), 2);
        Due.is("and all is 0 but what came", x.part(1, 0), 1);
    }

    private static void aSheetAnewIsAnother() {
        LagoonOpera x = new LagoonOpera();
        x.boat(10, 0);
        Edge.laid(x, 0, 32, 256 + 7, 65536 + 9);
        Due.is("32 bits", x.part(0, 0), 0);
        x.sheet(0, 8, 2);
        Due.is("all 0", x.part(0, 0), 1);
        x.put(0, 0, 256 + 7);
        Due.is("8 bits", x.part(0, 0), 2);
        Due.is("PART", x.ofBoat(0, 3), 1 << 7 | 1);
        Due.is("a refused one leaves it", x.sheet(0, 16, -1), STATE);
        Due.is("a refused one leaves it", x.sheet(0, 16, 41), BEYOND);
        Due.is("PART", x.part(0, 0), 2);
        Due.is("8 bits, still", x.put(0, 1, 256 + 6), 1);
        x.part(0, 0);
        Due.is("PART", x.ofBoat(0, 3), 1 << 7 | 1 << 6);
    }

    // ---- ERRORS, VOICES

    private static final Edge.Act[] REFUSED = {
        x -> x.tide(4, 1), x -> x.tide(0, 5), x -> x.speed(0), x -> x.boat(70, 1), x -> x.ofBoat(9, 0), x -> x.change(0, 4, 1),
        x -> x.become(0, 70), x -> x.as(1, 1), x -> x.as(1, 9), x -> x.lag(0, 64), x -> x.listener(-1), x -> x.ofListener(0, 9),
        x -> x.row(9, 1), x -> x.feed(1, 0), x -> x.text(2), x -> x.law(2, 1, 1, 1), x -> x.beats(0), x -> x.loose(129),
        x -> x.then(129, 0), x -> x.thenListener(-1, 0, 0), x -> x.score(0, 129), x -> x.place(-1), x -> x.fromHere(129),
        x -> x.mooring(0, 64, 1), x -> x.sooner(-1, 0, 1), x -> x.fitSpeed(64, 1), x -> x.fromWhere(-1, 0),
        x -> x.whereFrom(0, 0, 64), x -> x.whereFrom(0, 0, -1), x -> x.strokes(0, 129), x -> x.voice(0, 4, 0), x -> x.trace(40),
        x -> x.sheet(0, 8, -1), x -> x.sheet(0, 9, 1), x -> x.put(3, 0, 0), x -> x.put(0, 40, 0), x -> x.move(0, 0, 1, 0, 1),
        x -> x.move(0, 0, 3, 0, 1), x -> x.move(0, 9, 0, 0, 1), x -> x.part(3, 0), x -> x.part(0, 9), x -> x.judge(3, 0),
        x -> x.judge(4, 0), x -> x.count(11), x -> x.told(0), x -> x.told(6),
    };

    private static void refusedOnesLeaveAll() {
        LagoonOpera x = Edge.rich();
        for (Edge.Act act : REFUSED) {
            long answer = act.on(x);
            Due.holds("an ERROR", answer < Due.LOW && answer >= KIND);
        }
        Look.same("behind all that were refused", x, Edge.rich());
    }

    private static void eachErrorIsTold() {
        LagoonOpera x = Edge.rich();
        int[] due = new int[6];
        for (int k = 1; k <= 5; k++) due[k] = x.told(k);
        for (int times = 0; times < 2; times++) {
            for (Edge.Act act : REFUSED) {
                int k = (int) (Due.LOW - act.on(x));
                due[k]++;
                for (int other = 1; other <= 5; other++) Due.is("told(" + other + ")", x.told(other), due[other]);
                if (k == 1) x.image();
                if (k == 2) x.restore();
            }
            x = Edge.rich();
            for (int k = 1; k <= 5; k++) due[k] = x.told(k);
        }
    }

    private static void voicesOneBehindAnother() {
        LagoonOpera x = new LagoonOpera();
        x.boat(0, 0);
        x.boat(24, 0);
        Due.is("DRIFTER: (5 and 1) times 3", x.voice(1, 0, 5), 18);
        Due.is("two BODIES", x.count(9), 2);
        Due.is("another BOAT: 5 and 0", x.voice(0, 0, 5), 5);
        Due.is("one BODY", x.count(9), 1);
        x.become(1, 13);
        Due.is("become another KIND: (5 and 1) twice, less 1 less 3", x.voice(1, 1, 5), 14);
        Due.is("four BODIES", x.count(9), 4);
        x.become(1, 19);
        Due.is("THE TRACE stays", x.count(9), 4);
        Due.is("another m: less 1 less 9", x.voice(1, 1, 5), 20);
        x.restore();
        x.voice(2, 0, 5);
        Due.is("THE TRACE stays behind refused ones", x.trace(0), 20);
        Due.is("its last one", x.trace(3), 12);
    }

    // ---- README.md

    /** The calls that README.md shows answer what it tells. */
    private static void asReadmeTells() throws IOException {
        String page = Files.readString(Path.of("README.md"));
        Matcher shown = Pattern.compile("(?m)^opera\\.(\\w+)\\(([-0-9, ]*)\\); +// (-?\\d+)").matcher(page);
        LagoonOpera opera = new LagoonOpera();
        int calls = 0;
        while (shown.find()) {
            String words = (shown.group(1) + " " + shown.group(2).replace(",", "")).trim();
            Calls.Call call = Calls.of(words).get(0);
            Due.is("README: " + words, Calls.ask(opera, call.act(), call.arguments()), Long.parseLong(shown.group(3)));
            calls++;
        }
        Due.is("README shows so many calls", calls, page.split("\nopera\\.").length - 1);
        Due.holds("README shows calls", calls > 0);
    }
}
