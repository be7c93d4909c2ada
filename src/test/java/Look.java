import java.util.ArrayList;
import java.util.List;

/**
 * All that calls can see of an object but what told() tells, in some 250 calls, which change it: the object is of
 * no use behind it. SHEET 3 takes the numbers of the others to be read, so that of itself only bits and length are seen.
 */
final class Look {
    private static final int SPARE = 3;

    private final List<String> names = new ArrayList<>();
    private final List<Long> answers = new ArrayList<>();

    private Look() {
    }

    static Look at(LagoonOpera x) {
        Look look = new Look();
        look.scene(x, "");
        look.trace(x);
        look.desk(x, "");
        look.sheets(x);
        look.image(x);
        return look;
    }

    /** Whether two objects answered alike all over. */
    static void same(String call, LagoonOpera x, LagoonOpera twin) {
        Look look = at(x);
        Look due = at(twin);
        Due.is(call + ": so many looks", look.names.size(), due.names.size());
        for (int i = 0; i < look.names.size() && i < due.names.size(); i++) {
            Due.is(call + ": " + look.names.get(i), look.answers.get(i), due.answers.get(i));
        }
    }

    private void saw(String name, long answer) {
        names.add(name);
        answers.add(answer);
    }

    private void scene(LagoonOpera x, String when) {
        for (int what = 0; what <= 10; what++) saw(when + "count " + what, x.count(what));
        for (int boat = 0; boat < Math.min(9, x.count(1)); boat++) {
            for (int what = 0; what <= 4; what++) saw(when + "ofBoat " + boat + ", " + what, x.ofBoat(boat, what));
            saw(when + "lag " + boat, x.lag(boat, 0));
            saw(when + "then " + boat, x.then(40, boat));
        }
        for (int listener = 0; listener < Math.min(6, x.count(2)); listener++) {
            for (int what = 0; what <= 3; what++) {
                saw(when + "ofListener " + listener + ", " + what, x.ofListener(listener, what));
            }
            saw(when + "thenListener " + listener, x.thenListener(9, listener, 1));
        }
        saw(when + "LAGS", x.law(0, 7, 2, 4));
        saw(when + "LAGS", x.law(0, 3, 0, 8));
        saw(when + "PAYS", x.law(1, 3, 1, 5));
        saw(when + "fromHere 5", x.fromHere(5));
        saw(when + "fromHere 32", x.fromHere(32));
    }

    private void trace(LagoonOpera x) {
        int bodies = x.count(9);
        for (int i = 0; i < bodies; i++) saw("trace " + i, x.trace(i));
    }

    /** The numbers that wait, what is on THE TAPE, the TIDES. */
    private void desk(LagoonOpera x, String when) {
        saw(when + "the numbers that wait", x.check(0));
        saw(when + "THE TAPE", x.text(0));
        saw(when + "the TEXT from it", x.law(0, 7, 2, 4));
        for (int phase = 0; phase < 4; phase++) saw(when + "tide " + phase, x.tide(phase, 0));
    }

    private void sheets(LagoonOpera x) {
        if (x.count(1) == 0) x.boat(10, 0);
        int[] lengths = new int[4];
        for (int sheet = 0; sheet < 4; sheet++) {
            lengths[sheet] = lengthOf(x, sheet);
            saw("length of SHEET " + sheet, lengths[sheet]);
        }
        for (int sheet = 0; sheet < SPARE; sheet++) {
            if (lengths[sheet] < 0) continue;
            int bits = bitsOf(x, sheet);
            saw("bits of SHEET " + sheet, bits);
            x.sheet(SPARE, bits, 1);
            for (int i = 0; i < lengths[sheet]; i++) saw("number " + i + " of SHEET " + sheet, numberOf(x, sheet, i));
        }
    }

    /** The length of a SHEET, -1 if it is missing: most numbers that can be moved to where they are. */
    private static int lengthOf(LagoonOpera x, int sheet) {
        int so = -1;
        int not = 41;
        while (not - so > 1) {
            int n = (so + not) / 2;
            if (x.move(sheet, 0, sheet, 0, n) == n) so = n;
            else not = n;
        }
        return so;
    }

    private static int bitsOf(LagoonOpera x, int sheet) {
        for (int bits = 8; bits <= 32; bits *= 2) {
            x.sheet(SPARE, bits, 0);
            if (x.move(sheet, 0, SPARE, 0, 0) == 0) return bits;
        }
        return 0;
    }

    /** A number as the PART that it tells alone: a bit, or none if it isn't 0 to 31. */
    private static int numberOf(LagoonOpera x, int sheet, int i) {
        x.move(sheet, i, SPARE, 0, 1);
        x.part(SPARE, 0);
        return x.ofBoat(0, 3);
    }

    private void image(LagoonOpera x) {
        saw("restore", x.restore());
        scene(x, "in the IMAGE: ");
        desk(x, "in the IMAGE: ");
        saw("image", x.image());
    }
}
