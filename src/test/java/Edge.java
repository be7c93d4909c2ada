import java.util.function.Supplier;

/** What the tests of edges share: objects to begin with, and refused calls that leave all else as it was. */
final class Edge {
    static final int LEAST = Integer.MIN_VALUE;
    static final int MOST = Integer.MAX_VALUE;

    interface Act {
        long on(LagoonOpera x);
    }

    interface Tried {
        long on(LagoonOpera x, int v);
    }

    private Edge() {
    }

    /** Three BOATS, two LISTENERS, of all else something, an IMAGE of other things; SHEET 3 is missing; BEAT 7. */
    static LagoonOpera rich() {
        LagoonOpera x = new LagoonOpera();
        for (int phase = 0; phase < 4; phase++) x.tide(phase, 1 + (phase + 1) % 4);
        x.speed(3);
        Due.boat(x, 25, 9, Due.ALL);
        Due.boat(x, 63, 20, 0x0ff0f0f3);
        Due.boat(x, 47, 36, 0x33333337);
        x.listener(12);
        x.listener(40);
        Due.text(x, 0, "d/s*(t%3=1)");
        Due.text(x, 1, "n*2+i");
        x.seed(77);
        x.loose(3);
        Due.feed(x, "s+5");
        x.tell(1);
        x.image();
        otherThanItsImage(x);
        return x;
    }

    private static void otherThanItsImage(LagoonOpera x) {
        x.tide(0, 4);
        x.speed(4);
        x.loose(1);
        x.beats(3);
        x.become(2, 40);
        x.change(0, 2, 30);
        x.row(1, 29);
        Due.text(x, 1, "n+i*2");
        x.check(0);
        Due.feed(x, "t*s");
        for (int k = 1; k <= 3; k++) x.tell(x.thenListener(k, 0, 1));
        x.voice(1, 3, 5);
        laid(x, 0, 8, 3, 1, 4, 31, 0);
        laid(x, 1, 16, 9, 2, 6);
        laid(x, 2, 8, 30, 8);
        x.trace(99);
        x.trace(99);
        for (int i = 0; i < 3; i++) x.sheet(0, 8, -1);
        x.as(0, 6);
        x.tide(4, 0);
    }

    static void laid(LagoonOpera x, int sheet, int bits, int... numbers) {
        x.sheet(sheet, bits, numbers.length);
        for (int i = 0; i < numbers.length; i++) x.put(sheet, i, numbers[i]);
    }

    static void goTo(LagoonOpera x, int beat) {
        for (int left = beat - x.count(0); left > 0; left -= 128) x.beats(Math.min(128, left));
    }

    /** As rich(), in BEAT 9999. */
    static LagoonOpera last() {
        LagoonOpera x = rich();
        goTo(x, 9999);
        return x;
    }

    /** A refused call answers its ERROR, told() counts it once, and all else is as in an object without it. */
    static void refused(String call, Supplier<LagoonOpera> start, Act act, int error) {
        LagoonOpera x = start.get();
        LagoonOpera twin = start.get();
        Due.is(call, act.on(x), error);
        counted(call, x, twin, error);
        Look.same(call, x, twin);
    }

    static void refused(String call, Act act, int error) {
        refused(call, Edge::rich, act, error);
    }

    /** An ERROR was counted, and no other one. */
    static void counted(String call, LagoonOpera x, LagoonOpera twin, int error) {
        for (int k = 1; k <= 5; k++) {
            int more = error == Due.LOW - k ? 1 : 0;
            Due.is(call + ", then told(" + k + ")", x.told(k), twin.told(k) + more);
        }
    }

    /** An act that only asks leaves all as it is in an object that wasn't asked. */
    static void changesNothing(String call, Act act) {
        LagoonOpera x = rich();
        LagoonOpera twin = rich();
        act.on(x);
        counted(call, x, twin, 0);
        Look.same(call, x, twin);
    }

    /** An argument's first and last value are taken; those beside them, and the farthest ones, are BEYOND. */
    static void range(String call, Supplier<LagoonOpera> start, int least, int most, Tried act) {
        for (int v : new int[] {least, most}) {
            LagoonOpera x = start.get();
            act.on(x, v);
            counted(call + " with " + v, x, start.get(), 0);
        }
        for (int v : new int[] {least - 1, most + 1, LEAST, MOST}) {
            refused(call + " with " + v, start, x -> act.on(x, v), Due.BEYOND);
        }
    }

    static void range(String call, int least, int most, Tried act) {
        range(call, Edge::rich, least, most, act);
    }
}
