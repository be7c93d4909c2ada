import java.util.ArrayList;
import java.util.List;

/**
 * Each act directly behind each other one, taken and refused by each of its ERRORS, from objects that have little,
 * something and all: the answers, and what is seen behind them, held against those of PlainOpera.
 */
public final class PairsTest {
    private static final String[] NEW = {};

    /** Of all something, an IMAGE of other things, a FAULT on THE TAPE; SHEET 3 is missing. */
    private static final String[] SOME = {
        "tide 0 2", "tide 1 3", "tide 2 4", "tide 3 1", "speed 3", "boat 25 9", "change 0 3 -1", "boat 63 20",
        "change 1 3 267448563", "boat 47 36", "change 2 3 858993463", "listener 12", "listener 40", "tape d/s*(t%3", "tape =1)",
        "text 0", "tape n*2+i", "text 1", "seed 77", "loose 3", "tape s+5", "tell 1", "sheet 0 8 3", "image", "tide 0 4",
        "speed 4", "loose 1", "beats 3", "become 2 40", "change 0 2 30", "row 1 29", "text 1", "tape n+i*2", "text 1", "check 0",
        "tape t+d+", "tell 6", "tell 6", "voice 1 3 5", "sheet 0 8 5", "put 0 0 3", "put 0 1 9", "put 0 3 31", "sheet 1 16 2",
        "put 1 0 9", "sheet 2 8 2", "put 2 0 30", "put 2 1 30", "as 0 6", "tide 4 0",
    };

    /** No room for a BOAT, a LISTENER, a byte, a number that waits; three alike and ECHOES, no IMAGE. */
    private static final String[] FULL = {
        "speed 1", "tide 0 2", "tide 2 1", "boat 20 9", "boat 10 10", "boat 31 9", "boat 42 9", "boat 42 14", "boat 58 1",
        "boat 60 14", "boat 0 9", "boat 9 63", "change 0 3 -1", "change 1 3 -1", "change 3 3 255", "change 4 3 255",
        "change 6 3 65280", "listener 9", "listener 12", "listener 63", "listener 0", "listener 0", "listener 0", "tape 12+d+d+d",
        "tape +d+d+d+d", "tape +d+d+d+d", "tape +d+d+d+d", "tape +d+d+d+d", "tape +d+d+d+d", "tape +s", "tell 1", "tell 2",
        "tell 3", "tell 4", "tell 5", "tell 6", "tell 7", "tell 8", "tell 8", "tell 8", "tell 8", "tell 8", "tell 8", "tell 8",
        "tell 8", "tell 8", "tell 8", "tell 8", "tell 8", "tell 8", "sheet 0 32 40", "sheet 1 8 1", "sheet 2 32 3", "sheet 3 8 0",
        "put 0 39 5", "put 2 0 9", "put 2 1 10", "put 2 2 11",
    };

    private static final String[] ACTS = {
        "tide 0 3", "tide 1 0", "tide 4 0", "speed 7", "speed 10", "boat 58 11", "boat 70 0", "ofBoat 1 4", "ofBoat 1 5",
        "change 1 2 44", "change 0 3 5", "change 1 2 64", "change 9 3 1", "become 1 57", "become 0 44", "become 1 70", "as 1 3",
        "as 1 1", "as 1 7", "lag 2 63", "lag 2 64", "listener 33", "listener 64", "ofListener 1 3", "ofListener 1 4", "row 0 36",
        "row 0 64", "tape 2", "tape s*2", "tape )", "feed 0 9", "text 0", "text 1", "text 2", "law 0 7 2 4", "law 1 3 1 5",
        "law 2 0 0 0", "beats 1", "beats 9", "beats 0", "loose 1", "loose 7", "loose 129", "then 9 0", "then 129 0",
        "thenListener 7 0 2", "thenListener 7 0 4", "score 27 9", "score 64 9", "place 2", "place 129", "fromHere 2", "fromHere -1",
        "mooring 1 27 3", "mooring 1 64 3", "sooner 1 27 3", "sooner 9 27 3", "fitSpeed 27 9", "fitSpeed -1 9",
        "fromWhere 37449 10101", "fromWhere 262144 0", "whereFrom 37449 0 1", "whereFrom 37449 0 64", "whereFrom 0 1000000 0",
        "strokes 1 40", "strokes 1 129", "seed 1234567", "voice 1 3 5", "voice 0 1 5", "voice 1 4 5", "trace 0", "trace 40",
        "sheet 0 16 4", "sheet 1 8 3", "sheet 0 0 0", "sheet 0 8 -1", "sheet 0 8 41", "put 0 1 31", "put 3 0 0", "put 0 40 0",
        "move 0 0 2 0 2", "move 0 1 0 0 2", "move 0 0 1 0 1", "move 0 0 3 0 1", "move 0 0 4 0 1", "move 0 0 2 0 40", "part 0 1",
        "part 3 1", "part 0 9", "judge 2 0", "judge 3 0", "judge 4 0", "image", "restore", "tell 4", "check 0", "check 9", "count 8",
        "count 11", "told 1", "told 0",
    };

    private static final String[] LOOKS = {
        "count 0", "count 1", "count 2", "count 3", "count 4", "count 5", "count 6", "count 7", "count 8", "count 9", "count 10",
        "told 1", "told 2", "told 3", "told 4", "told 5", "ofBoat 0 0", "ofBoat 0 1", "ofBoat 0 2", "ofBoat 0 3", "ofBoat 1 0",
        "ofBoat 1 1", "ofBoat 1 2", "ofBoat 1 3", "ofBoat 3 2", "ofListener 0 0", "ofListener 0 1", "ofListener 0 2",
        "ofListener 0 3", "ofListener 1 0", "ofListener 1 1", "ofListener 1 2", "lag 0 27", "lag 2 27", "law 0 9 2 3", "law 1 3 1 5",
        "then 20 0", "then 20 1", "thenListener 4 0 1", "score 27 6", "trace 0", "trace 3", "judge 0 0", "judge 2 0", "move 0 0 2 0 2",
        "part 0 0", "ofBoat 0 3", "part 1 0", "ofBoat 0 3", "put 0 4 0", "check 0", "text 0", "law 0 9 2 3", "tide 0 0", "tide 1 1",
        "restore", "count 0", "count 4", "count 5", "count 7", "count 8", "count 10", "ofBoat 0 2", "ofBoat 1 0", "ofBoat 1 3",
        "ofListener 0 1", "lag 0 27", "check 0", "text 0", "law 0 9 2 3", "law 1 3 1 5", "tide 0 0", "image",
    };

    private static int asked = 0;
    private static int wrong = 0;

    private PairsTest() {
    }

    public static void main(String[] args) {
        List<Calls.Call> acts = Calls.of(ACTS);
        isOfAllActs(acts);
        for (String[] start : new String[][] {NEW, SOME, FULL}) {
            for (Calls.Call one : acts) {
                for (Calls.Call other : acts) run(start, one, other);
            }
        }
        // an IMAGE between the two, and what restore() gives back behind them
        List<Calls.Call> images = Calls.of("image", "restore");
        for (Calls.Call one : acts) {
            for (Calls.Call other : acts) run(SOME, one, images.get(0), other, images.get(1));
        }
        System.out.println(asked + " answers, " + wrong + " not as due");
        if (wrong != 0) System.exit(1);
    }

    private static void isOfAllActs(List<Calls.Call> acts) {
        for (int act = 0; act < Calls.acts(); act++) {
            boolean there = false;
            for (Calls.Call call : acts) there |= call.act() == act;
            if (there) continue;
            wrong++;
            System.out.println("no call of " + Calls.name(act));
        }
    }

    private static void run(String[] start, Calls.Call... acts) {
        if (wrong >= 10) return;
        LagoonOpera x = new LagoonOpera();
        PlainOpera plain = new PlainOpera();
        List<Calls.Call> calls = new ArrayList<>(Calls.of(start));
        calls.addAll(List.of(acts));
        calls.addAll(Calls.of(LOOKS));
        for (int i = 0; i < calls.size(); i++) {
            Calls.Call call = calls.get(i);
            long due = plain.call(call.act(), call.arguments());
            long got = Calls.ask(x, call.act(), call.arguments());
            asked++;
            if (got == due) continue;
            wrong++;
            System.out.println(call.words() + " answered " + got + ", due is " + due + ", as call " + i + " of");
            for (Calls.Call ahead : calls.subList(0, i + 1)) System.out.println("    " + ahead.words());
            return;
        }
    }
}
