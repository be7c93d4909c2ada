import java.util.ArrayList;
import java.util.List;

/** The acts by their places in the public face, so that tests can draw calls, or list them in words. */
final class Calls {
    private static final String[] NAMES = {
        "tide", "speed", "boat", "ofBoat", "change", "become", "as", "lag", "listener", "ofListener", "row", "feed", "text", "law",
        "beats", "loose", "then", "thenListener", "score", "place", "fromHere", "mooring", "sooner", "fitSpeed", "fromWhere",
        "whereFrom", "strokes", "seed", "voice", "trace", "sheet", "put", "move", "part", "judge", "image", "restore", "tell",
        "check", "count", "told",
    };

    /** A call: the place of its act, and its arguments. */
    record Call(String words, int act, long[] arguments) {
    }

    private Calls() {
    }

    /** Calls in words: "change 0 3 -1"; "tape d+s" feeds the signs, eight at most. */
    static List<Call> of(String... all) {
        List<Call> calls = new ArrayList<>();
        for (String words : all) calls.add(words.startsWith("tape ") ? fed(words) : told(words));
        return calls;
    }

    private static Call fed(String words) {
        String signs = words.substring(5);
        long word = 0;
        for (int i = 0; i < signs.length(); i++) word |= (signs.charAt(i) & 255L) << (8 * i);
        return new Call(words, place("feed"), new long[] {word, signs.length()});
    }

    private static Call told(String words) {
        String[] parts = words.split(" ");
        long[] arguments = new long[parts.length - 1];
        for (int i = 0; i < arguments.length; i++) arguments[i] = Long.parseLong(parts[i + 1]);
        return new Call(words, place(parts[0]), arguments);
    }

    static int acts() {
        return NAMES.length;
    }

    static String name(int act) {
        return NAMES[act];
    }

    private static int place(String name) {
        for (int act = 0; act < NAMES.length; act++) if (NAMES[act].equals(name)) return act;
        throw new IllegalArgumentException("no act " + name);
    }

    static long ask(LagoonOpera x, int act, long[] a) {
        int[] i = new int[7];
        for (int j = 0; j < a.length; j++) i[j] = (int) a[j];
        switch (act) {
            case 0: return x.tide(i[0], i[1]);
            case 1: return x.speed(i[0]);
            case 2: return x.boat(i[0], i[1]);
            case 3: return x.ofBoat(i[0], i[1]);
            case 4: return x.change(i[0], i[1], i[2]);
            case 5: return x.become(i[0], i[1]);
            case 6: return x.as(i[0], i[1]);
            case 7: return x.lag(i[0], i[1]);
            case 8: return x.listener(i[0]);
            case 9: return x.ofListener(i[0], i[1]);
            case 10: return x.row(i[0], i[1]);
            case 11: return x.feed(a[0], i[1]);
            case 12: return x.text(i[0]);
            case 13: return x.law(i[0], i[1], i[2], i[3]);
            case 14: return x.beats(i[0]);
            case 15: return x.loose(i[0]);
            case 16: return x.then(i[0], i[1]);
            case 17: return x.thenListener(i[0], i[1], i[2]);
            case 18: return x.score(i[0], i[1]);
            case 19: return x.place(i[0]);
            case 20: return x.fromHere(i[0]);
            default: return askOn(x, act, i);
        }
    }

    private static long askOn(LagoonOpera x, int act, int[] i) {
        switch (act) {
            case 21: return x.mooring(i[0], i[1], i[2]);
            case 22: return x.sooner(i[0], i[1], i[2]);
            case 23: return x.fitSpeed(i[0], i[1]);
            case 24: return x.fromWhere(i[0], i[1]);
            case 25: return x.whereFrom(i[0], i[1], i[2]);
            case 26: return x.strokes(i[0], i[1]);
            case 27: return x.seed(i[0]);
            case 28: return x.voice(i[0], i[1], i[2]);
            case 29: return x.trace(i[0]);
            case 30: return x.sheet(i[0], i[1], i[2]);
            case 31: return x.put(i[0], i[1], i[2]);
            case 32: return x.move(i[0], i[1], i[2], i[3], i[4]);
            case 33: return x.part(i[0], i[1]);
            case 34: return x.judge(i[0], i[1]);
            case 35: return x.image();
            case 36: return x.restore();
            case 37: return x.tell(i[0]);
            case 38: return x.check(i[0]);
            case 39: return x.count(i[0]);
            default: return x.told(i[0]);
        }
    }
}
