/** Sentences that name an edge: THE TAPE, TEXTS, USES; promises 13 to 15. A method each. */
public final class EdgesOfTextsTest {
    private static final int BEYOND = Due.BEYOND;
    private static final int FULL = Due.FULL;
    private static final int LEAST = Edge.LEAST;
    private static final int MOST = Edge.MOST;
    private static final String NAMES_OF_LAGS = "dst";
    private static final String NAMES_OF_PAYS = "nit";

    private static LagoonOpera shared = new LagoonOpera();
    private static int asked = 0;

    public static void main(String[] args) {
        promise13();
        promise14();
        theGrammar();
        whatTextsGive();
        promise15();
        Due.end();
    }

    private static void promise13() {
        promise13Taken();
        promise13Full();
        promise13TheLowestBytes();
    }

    private static void promise14() {
        promise14Use();
        promise14TheTapeIsEmptyThen();
        promise14TheOneAheadStays();
        promise14FaultAtEachPlace();
        promise14TooEarlyAtEachLength();
    }

    private static void theGrammar() {
        aNumberHasOneToFourDigits();
        fiveAreOpenAtMost();
        openOnesAreClosed();
        aNameOfItsUse();
        theFirstByte();
        theSecondByte();
        oneComparisonAtMost();
        noBlanks();
    }

    private static void whatTextsGive() {
        intsWrap();
        quotientsAreCut();
        by0Is0();
        whatIsNot0IsTrue();
        allIsWorkedOut();
        all50BytesAreWorkedOut();
    }

    private static void promise15() {
        promise15Use();
        promise15Held();
        promise15WithoutAText();
        lagsWithoutATextBySpeed();
        paysHeldInABeat();
    }

    // ---- promise 13

    private static void promise13Taken() {
        Edge.range("n of feed", 1, 8, (x, n) -> x.feed(0x6464646464646464L, n));
        for (int n = 1; n <= 8; n++) {
            LagoonOpera x = new LagoonOpera();
            Due.is("how many there are", x.feed(-1L, n), n);
            Due.is("how many there are then", x.feed(0L, n), 2 * n);
            Due.is("count(7)", x.count(7), 2 * n);
        }
        for (long word : new long[] {0, -1, Long.MIN_VALUE, Long.MAX_VALUE}) {
            Due.is("any word", new LagoonOpera().feed(word, 8), 8);
        }
    }

    /** A TAPE with so many bytes; the first of them are a TEXT up to its end. */
    private static LagoonOpera fed(int bytes) {
        LagoonOpera x = new LagoonOpera();
        Due.feed(x, "ds".repeat(25).substring(0, bytes));
        return x;
    }

    private static void promise13Full() {
        for (int n = 1; n <= 8; n++) {
            int bytes = n;
            Due.is("50 by " + n, fed(50 - n).feed(0, n), 50);
            Edge.refused("51 by " + n, () -> fed(51 - bytes), x -> x.feed(0, bytes), FULL);
            Edge.refused("58 by 8 and more", () -> fed(50), x -> x.feed(0, bytes), FULL);
        }
        for (int n : new int[] {0, 9, -1, LEAST, MOST}) {
            Edge.refused("BEYOND is asked ahead of FULL", () -> fed(50), x -> x.feed(0, n), BEYOND);
        }
        LagoonOpera x = fed(50);
        x.feed(0x2b, 1);
        Due.is("a refused byte doesn't come", x.text(0), -11);
        Due.is("room again", x.feed(0x6464646464646464L, 8), 8);
        x = fed(49);
        Due.is("refused", x.feed(0x3131, 2), FULL);
        Due.is("not even the first of two comes", x.count(7), 49);
    }

    private static void promise13TheLowestBytes() {
        long word = 0x2b642a732d743139L;
        String signs = "91t-s*d+";
        for (int n = 1; n <= 8; n++) {
            LagoonOpera x = new LagoonOpera();
            x.feed(word, n);
            LagoonOpera y = new LagoonOpera();
            for (int i = 0; i < n; i++) y.feed(signs.charAt(i), 1);
            Due.is("the lowest first, " + n, x.text(0), y.text(0));
        }
        LagoonOpera x = new LagoonOpera();
        Due.is("higher bytes don't come", x.feed(0xffffffffffff3373L, 1), 1);
        Due.is("s alone", x.text(0), 1);
        Due.is("what it gives", x.law(0, 1, 42, 3), 42);
        x.feed(0x3033323174732b64L, 2);
        x.feed(0x3033323174732b64L, 8);
        Due.is("d+ and all eight, d+st1230", x.text(0), -10 - 5);
        x.feed(0x64L << 56 | 0x2d2d2d2d2d2d2dL, 8);
        Due.is("the highest byte is the last", x.text(0), -10);
        x.feed(0x642d642d642d642dL >>> 8, 7);
        Due.is("a word without it", x.text(0), 1);
        Due.is("d-d-d-d", x.law(0, -7, 0, 0), 14);
    }

    // ---- promise 14

    private static void promise14Use() {
        for (int use : new int[] {LEAST, -1, 2, MOST}) {
            Edge.refused("text of USE " + use, x -> x.text(use), BEYOND);
            LagoonOpera x = fed(1);
            x.text(use);
            Due.is("THE TAPE stays", x.count(7), 1);
            Due.is("and is a TEXT still", x.text(0), 1);
        }
        Due.is("USE 0", Due.text(new LagoonOpera(), 0, "1"), 1);
        Due.is("USE 1", Due.text(new LagoonOpera(), 1, "1"), 1);
    }

    private static void promise14TheTapeIsEmptyThen() {
        LagoonOpera x = new LagoonOpera();
        for (int use = 0; use <= 1; use++) {
            Due.is("an empty TAPE ends too early", x.text(use), -10);
            Due.text(x, use, "t");
            Due.is("empty behind a TEXT", x.count(7), 0);
            Due.text(x, use, "t+");
            Due.is("empty behind a FAULT", x.count(7), 0);
            Due.is("an empty TAPE ends too early", x.text(use), -10);
        }
        for (int k = 1; k <= 5; k++) Due.is("a FAULT is no ERROR", x.told(k), 0);
    }

    private static void promise14TheOneAheadStays() {
        LagoonOpera x = new LagoonOpera();
        Due.text(x, 0, "17");
        Due.text(x, 1, "18");
        for (String fault : new String[] {"", "+", "1+", "12345", "((((((1", "1)"}) {
            Due.text(x, 0, fault);
            Due.text(x, 1, fault);
            Due.is("LAGS stays behind '" + fault + "'", x.law(0, 0, 0, 0), 17);
            Due.is("PAYS stays behind '" + fault + "'", x.law(1, 0, 0, 0), 18);
        }
        Due.text(x, 0, "19");
        Due.is("in place of the one ahead", x.law(0, 0, 0, 0), 19);
        Due.is("the other one stays", x.law(1, 0, 0, 0), 18);
        Due.text(x, 1, "20");
        Due.is("in place of the one ahead", x.law(1, 0, 0, 0), 20);
        Due.is("the other one stays", x.law(0, 0, 0, 0), 19);
        LagoonOpera y = new LagoonOpera();
        Due.text(y, 0, "d+");
        Due.is("none ahead: still without a TEXT", y.law(0, 7, 2, 0), 3);
    }

    /** What text() answers; a new object each 40 TEXTS, for one is used for 512 calls at most. */
    private static int text(String text, int use) {
        if (++asked % 40 == 0) shared = new LagoonOpera();
        return Due.text(shared, use, text);
    }

    private static void good(String text) {
        Due.is("'" + text + "'", text(text, 0), 1);
    }

    private static void fault(String text, int place) {
        Due.is("'" + text + "'", text(text, 0), -10 - place);
    }

    /** d+d+d+.. with a byte in it that no TEXT takes there. */
    private static void promise14FaultAtEachPlace() {
        String sum = "d+".repeat(25);
        for (int place = 0; place < 50; place++) {
            String ahead = sum.substring(0, place);
            fault(ahead + "?", place);
            fault(ahead + "?" + sum.substring(place + 1), place);
            fault(ahead + (place % 2 == 0 ? "+" : "d"), place);
            fault(ahead + (char) 200, place);
            fault(ahead + (char) 0, place);
        }
    }

    private static void promise14TooEarlyAtEachLength() {
        String sum = "d+".repeat(25);
        for (int length = 0; length <= 50; length++) {
            if (length % 2 == 1) good(sum.substring(0, length));
            else fault(sum.substring(0, length), length);
        }
        for (int length = 1; length <= 50; length++) {
            String bracket = ("(" + sum).substring(0, length);
            fault(bracket, length);
        }
        good("12" + "+d".repeat(24));
        fault("1" + "+d".repeat(24) + "+", 50);
        fault("(1" + "+d".repeat(24), 50);
        good("(" + "d+".repeat(23) + "12)");
    }

    // ---- the grammar

    private static void aNumberHasOneToFourDigits() {
        String[] ahead = {"", "d+", "(", "!", "1-", "d<"};
        for (String a : ahead) {
            String end = a.equals("(") ? ")" : "";
            for (String number : new String[] {"0", "9", "00", "12", "000", "123", "0000", "9999"}) good(a + number + end);
            for (String number : new String[] {"00000", "12345", "99999", "012345"}) fault(a + number + end, a.length() + 4);
        }
        Due.is("9999", text("9999-9900", 0), 1);
        Due.is("it is 9999", shared.law(0, 0, 0, 0), 99);
        Due.is("0012", text("0012", 0), 1);
        Due.is("it is 12", shared.law(0, 0, 0, 0), 12);
        good("9999+9999");
        fault("9999+99999", 9);
    }

    /** All orders of ! and ( : five are taken, the sixth is the FAULT. */
    private static void fiveAreOpenAtMost() {
        for (int orders = 0; orders < 64; orders++) {
            StringBuilder six = new StringBuilder();
            StringBuilder end = new StringBuilder();
            for (int i = 0; i < 6; i++) {
                if (i == 5) good(six + "d" + end);
                boolean bracket = (orders >> i & 1) == 1;
                six.append(bracket ? '(' : '!');
                if (bracket) end.append(')');
            }
            fault(six + "d" + end, 5);
            fault(six.toString(), 5);
            fault(six.substring(0, 5), 5);
            fault("d+" + six + "d" + end, 7);
        }
    }

    private static void openOnesAreClosed() {
        good("(((((d)))))+(((((d)))))");
        good("!!!!!d+!!!!!d");
        good("!!!!!d|(((((d)))))&!(!(!d))<!!(!(d))");
        good("(((((d)*(d)))))");
        fault("(((((d)*((d)))))", 9);
        good("((((!d+!d))))");
        fault("((((!d+!!d))))", 8);
        good("(((!(d)+!(d))))");
        fault("(((!(d)+!(!d))))", 10);
        fault("(d", 2);
        fault("(((((d))))", 10);
        fault("(((((d))))))", 11);
        fault("d)", 1);
        fault("()", 1);
        fault("(!)", 2);
    }

    private static void aNameOfItsUse() {
        for (char name = 'a'; name <= 'z'; name++) {
            boolean ofLags = NAMES_OF_LAGS.indexOf(name) >= 0;
            boolean ofPays = NAMES_OF_PAYS.indexOf(name) >= 0;
            String text = "1+" + name;
            Due.is(text + " of LAGS", text(text, 0), ofLags ? 1 : -12);
            Due.is(text + " of PAYS", text(text, 1), ofPays ? 1 : -12);
        }
    }

    private static void theFirstByte() {
        for (int b = 0; b < 256; b++) {
            boolean digit = b >= '0' && b <= '9';
            boolean opens = b == '!' || b == '(';
            for (int use = 0; use <= 1; use++) {
                boolean name = (use == 0 ? NAMES_OF_LAGS : NAMES_OF_PAYS).indexOf((char) b) >= 0;
                int due = digit || name ? 1 : opens ? -11 : -10;
                Due.is("byte " + b + " alone, USE " + use, text("" + (char) b, use), due);
            }
        }
    }

    private static void theSecondByte() {
        for (int b = 0; b < 256; b++) {
            boolean operator = "|&<=>+-*/%".indexOf((char) b) >= 0;
            boolean digit = b >= '0' && b <= '9';
            Due.is("t and byte " + b, text("t" + (char) b, b & 1), operator ? -12 : -11);
            Due.is("7 and byte " + b, text("7" + (char) b, b & 1), operator ? -12 : digit ? 1 : -11);
            Due.is("(7) and byte " + b, text("(7)" + (char) b, b & 1), operator ? -14 : -13);
            Due.is("(7 and byte " + b, text("(7" + (char) b, b & 1), b == ')' ? 1 : operator || digit ? -13 : -12);
        }
    }

    private static void oneComparisonAtMost() {
        for (char one : "<=>".toCharArray()) {
            good("d" + one + "d");
            fault("d" + one, 2);
            for (char two : "<=>".toCharArray()) {
                fault("d" + one + "d" + two + "d", 3);
                fault("d" + one + two + "d", 2);
                fault("(d" + one + "d" + two + "d)", 4);
                good("(d" + one + "d)" + two + "d");
                good("d" + one + "(d" + two + "d)");
                good("d" + one + "d|d" + two + "d");
                good("d" + one + "d&d" + two + "d");
            }
        }
    }

    private static void noBlanks() {
        fault(" d", 0);
        fault("d ", 1);
        fault("d +d", 1);
        fault("d+ d", 2);
        fault("( d)", 1);
        fault("! d", 1);
        fault("1 2", 1);
        fault("d\t", 1);
        fault("d\n", 1);
    }

    // ---- what TEXTS give

    private static void gives(String text, int a, int b, int due) {
        good(text);
        Due.is(text + " by " + a + ", " + b, shared.law(0, a, b, 0), due);
    }

    private static void intsWrap() {
        gives("d+1<d", MOST, 0, 1);
        gives("d+1<d", MOST - 1, 0, 0);
        gives("d-1>d", LEAST, 0, 1);
        gives("d-1>d", LEAST + 1, 0, 0);
        gives("d*s", 65536, 65536, 0);
        gives("d*s", 65536, 65537, 99);
        gives("d*d", 46341, 0, 0);
        gives("d*d", 46340, 0, 99);
        gives("d+d", LEAST, 0, 0);
        gives("0-d=d", LEAST, 0, 1);
        gives("0-d=d", MOST, 0, 0);
        gives("d*9999*9999+7", 0, 0, 7);
        gives("d*s=d", LEAST, -1, 1);
    }

    private static void quotientsAreCut() {
        gives("7/2", 0, 0, 3);
        gives("d/s+9", -7, 2, 6);
        gives("d/s+9", 7, -2, 6);
        gives("d/s", -7, -2, 3);
        gives("d%s+9", -7, 2, 8);
        gives("d%s", 7, -2, 1);
        gives("d%s+9", -7, -2, 8);
        gives("d/s+9", -1, 2, 9);
        gives("(d/s)*s+d%s=d", -7, 3, 1);
        gives("d/s=d", LEAST, -1, 1);
        gives("d%s=0", LEAST, -1, 1);
        gives("d%s", 5, 5, 0);
        gives("d%s", 4, 5, 4);
        gives("d/s", 4, 5, 0);
        gives("d/s", 5, 5, 1);
    }

    private static void by0Is0() {
        gives("d/s+5", 7, 0, 5);
        gives("d%s+5", 7, 0, 5);
        gives("d/s+5", LEAST, 0, 5);
        gives("d%s+5", LEAST, 0, 5);
        gives("0/0+5", 0, 0, 5);
        gives("0%0+5", 0, 0, 5);
        gives("6/(d-d)*3+5", 1, 0, 5);
    }

    private static void whatIsNot0IsTrue() {
        for (int v : new int[] {1, -1, 2, LEAST, MOST, 256}) {
            gives("d|0", v, 0, 1);
            gives("0|d", v, 0, 1);
            gives("d&1", v, 0, 1);
            gives("2&d", v, 0, 1);
            gives("!d", v, 0, 0);
            gives("!!d", v, 0, 1);
        }
        gives("d|0", 0, 0, 0);
        gives("d&1", 0, 0, 0);
        gives("1&d", 0, 0, 0);
        gives("!d", 0, 0, 1);
        gives("d&s", 1, 2, 1);
        gives("(d|0)+5", 0, 0, 5);
        gives("(d&1)+5", 0, 0, 5);
        gives("!d+5", 7, 0, 5);
        gives("(d<0)+5", 7, 0, 5);
        gives("(d=0)+5", 7, 0, 5);
        gives("(d>9)+5", 7, 0, 5);
        gives("(d|0)+(1&d)+!0+(d<9)+(d=7)+(d>0)", 7, 0, 6);
        int[][] compared = {{0, 0}, {1, 0}, {0, 1}, {-1, 1}, {1, -1}, {LEAST, MOST}, {MOST, LEAST}, {MOST, MOST}, {LEAST, LEAST}};
        for (int[] c : compared) {
            gives("d<s", c[0], c[1], c[0] < c[1] ? 1 : 0);
            gives("d=s", c[0], c[1], c[0] == c[1] ? 1 : 0);
            gives("d>s", c[0], c[1], c[0] > c[1] ? 1 : 0);
        }
    }

    private static void allIsWorkedOut() {
        gives("1|d/0", 7, 0, 1);
        gives("0&d/0", 7, 0, 0);
        gives("0&d|1", 7, 0, 1);
        gives("1|d&0", 7, 0, 1);
        gives("1|0|0", 0, 0, 1);
        gives("1&1&0", 0, 0, 0);
        gives("9-3-2", 0, 0, 4);
        gives("40/5/4", 0, 0, 2);
        gives("17%10%4", 0, 0, 3);
        gives("2+3*4<15", 0, 0, 1);
        gives("2+3*4<14", 0, 0, 0);
    }

    private static void all50BytesAreWorkedOut() {
        gives("!1" + "+1".repeat(24), 0, 0, 24);
        gives("!0" + "+d".repeat(24), 2, 0, 49);
        gives("!0" + "+1".repeat(23) + "-d", 9, 0, 15);
        gives("1".repeat(2) + "|0".repeat(24), 0, 0, 1);
        gives("0".repeat(2) + "|0".repeat(23) + "|d", 7, 0, 1);
        gives("1".repeat(2) + "&1".repeat(23) + "&d", 0, 0, 0);
        gives("99" + "-1".repeat(24), 0, 0, 75);
        gives("(" + "d+".repeat(23) + "12)", 1, 0, 35);
        gives("12" + "+(1".repeat(5) + "+1".repeat(14) + ")".repeat(5), 0, 0, 31);
    }

    // ---- promise 15

    private static void promise15Use() {
        Edge.range("USE of law", 0, 1, (x, use) -> x.law(use, 4, 2, 1));
        Edge.refused("USE of law without a TEXT", LagoonOpera::new, x -> x.law(2, 4, 2, 1), BEYOND);
        Edge.refused("USE of law without a TEXT", LagoonOpera::new, x -> x.law(-1, 4, 2, 1), BEYOND);
    }

    private static void promise15Held() {
        String[] firstName = {"d", "n"};
        int[][] held = {
            {LEAST, 0}, {BEYOND, 0}, {-1, 0}, {0, 0}, {1, 1}, {98, 98}, {99, 99}, {100, 99}, {101, 99}, {MOST, 99},
        };
        for (int use = 0; use <= 1; use++) {
            LagoonOpera x = new LagoonOpera();
            Due.text(x, use, firstName[use]);
            for (int[] h : held) Due.is(firstName[use] + " by " + h[0], x.law(use, h[0], 1, 1), h[1]);
            Due.text(x, use, use == 0 ? "s" : "i");
            for (int[] h : held) Due.is("the second NAME by " + h[0], x.law(use, 1, h[0], 1), h[1]);
            Due.text(x, use, "t");
            for (int[] h : held) Due.is("the third NAME by " + h[0], x.law(use, 1, 1, h[0]), h[1]);
            Due.is("told(1)", x.told(1), 0);
        }
    }

    private static void promise15WithoutAText() {
        LagoonOpera x = new LagoonOpera();
        Due.is("a by b", x.law(0, 7, 2, 0), 3);
        Due.is("a by b, cut", x.law(0, -7, -2, 0), 3);
        Due.is("0 if b is 0", x.law(0, 7, 0, 9), 0);
        Due.is("0 if b is 0", x.law(0, 0, 0, 9), 0);
        Due.is("0 if b is 0", x.law(0, LEAST, 0, 9), 0);
        Due.is("a by 1", x.law(0, 99, 1, 0), 99);
        Due.is("0 by b", x.law(0, 0, -1, 0), 0);
        Due.is("PAYS is i", x.law(1, 5, 0, 9), 0);
        Due.is("PAYS is i", x.law(1, 5, 1, 9), 1);
        Due.is("PAYS is i", x.law(1, 5, 99, 9), 99);
        Due.text(x, 1, "n");
        Due.is("a TEXT of PAYS is none of LAGS", x.law(0, 7, 2, 0), 3);
    }

    private static void lagsWithoutATextBySpeed() {
        LagoonOpera x = new LagoonOpera();
        x.boat(10, 0);
        for (int speed = 1; speed <= 9; speed++) {
            x.speed(speed);
            for (int far = 0; far <= 7; far++) {
                Due.is("FAR " + far + " by SPEED " + speed, x.lag(0, far), far / speed);
            }
        }
    }

    /** What a LISTENER pays is held, too: less than 0 is nothing, more than 99 is 99, as far as COINS go. */
    private static void paysHeldInABeat() {
        LagoonOpera x = new LagoonOpera();
        x.listener(0);
        Due.text(x, 1, "0-7");
        Due.is("less than 0", x.beats(3), 0);
        Due.is("COINS stay", x.ofListener(0, 2), 50);
        Due.text(x, 1, "n");
        Due.is("none sings", x.beats(3), 0);
        Due.text(x, 1, "9999*9999");
        Due.is("99, as far as COINS go", x.beats(1), 50);
        Due.is("COINS", x.ofListener(0, 2), 0);
    }
}
