import java.util.Random;

/** FAULTS of all short texts of some signs, and of many long ones; what the good ones give. */
public final class TextsTest {
    private static LagoonOpera x = new LagoonOpera();
    private static int texts = 0;
    private static int good = 0;
    private static int wrong = 0;

    public static void main(String[] args) {
        all("1d<+|!()", 6);
        all("9s=>*&/%-n", 5);
        all("!(d)", 9);
        Random draws = new Random(1);
        for (int i = 0; i < 100000 && wrong < 10; i++) longOne(draws);
        System.out.println(texts + " texts, " + good + " of them good, " + wrong + " not as due");
        if (wrong != 0 || good < 10000) System.exit(1);
    }

    private static void all(String signs, int most) {
        int[] at = new int[most];
        for (int length = 0; length <= most; length++) {
            java.util.Arrays.fill(at, 0);
            boolean more = true;
            while (more && wrong < 10) {
                StringBuilder text = new StringBuilder();
                for (int i = 0; i < length; i++) text.append(signs.charAt(at[i]));
                ask(text.toString(), 3, 5, 7);
                int i = 0;
                while (i < length && at[i] == signs.length() - 1) at[i++] = 0;
                more = i < length;
                if (more) at[i]++;
            }
        }
    }

    /** Goes on by signs with which a TEXT mostly goes on. */
    private static void longOne(Random draws) {
        StringBuilder text = new StringBuilder();
        int most = draws.nextInt(51);
        String operands = "1234567890dddssstttt!!!(((((";
        String operators = "+-*/%|&<=>)))))))))";
        for (int i = 0; i < most; i++) {
            boolean wanted = PlainText.fault(text + "d", "dst") < 0 || PlainText.fault(text + "d", "dst") > text.length();
            String signs = draws.nextInt(60) == 0 ? operators + operands : wanted ? operands : operators;
            char sign = signs.charAt(draws.nextInt(signs.length()));
            int fault = PlainText.fault(text.toString() + sign, "dst");
            if (fault == text.length() && draws.nextInt(40) != 0) continue;
            text.append(sign);
        }
        while (text.length() < 50 && PlainText.fault(text + ")", "dst") != text.length()) text.append(')');
        ask(text.toString(), draws.nextInt(), draws.nextInt(20) - 10, draws.nextInt());
    }

    private static void ask(String text, int a, int b, int c) {
        if (++texts % 40 == 0) x = new LagoonOpera();
        int fault = PlainText.fault(text, "dst");
        int got = Due.text(x, 0, text);
        int due = fault < 0 ? 1 : -10 - fault;
        boolean so = got == due;
        if (so && fault < 0) {
            good++;
            got = x.law(0, a, b, c);
            due = Math.max(0, Math.min(99, PlainText.worth(text, "dst", new int[] {a, b, c})));
            so = got == due;
        }
        if (so) return;
        wrong++;
        System.out.println("'" + text + "' answered " + got + ", due is " + due);
    }
}
