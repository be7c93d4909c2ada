/** TEXTS in another way than the class reads them: sign by sign for the FAULT, by splitting for the worth. */
final class PlainText {
    private PlainText() {
    }

    /** The FAULT, or -1. */
    static int fault(String text, String names) {
        // for each ( that is open: the ! ahead of it, and whether its S was compared; the first one is the whole TEXT
        int[] denied = new int[60];
        boolean[] compared = new boolean[60];
        int brackets = 0;
        int open = 0;
        boolean wanted = true;
        int digits = 0;
        for (int i = 0; i < text.length(); i++) {
            char c = text.charAt(i);
            boolean digit = c >= '0' && c <= '9';
            if (digit && digits > 0 && digits < 4) {
                digits++;
                continue;
            }
            digits = 0;
            if (wanted) {
                if (digit || names.indexOf(c) >= 0) {
                    digits = digit ? 1 : 0;
                    wanted = false;
                    open -= denied[brackets];
                    denied[brackets] = 0;
                } else if (c == '!' && open < 5) {
                    open++;
                    denied[brackets]++;
                } else if (c == '(' && open < 5) {
                    open++;
                    brackets++;
                    denied[brackets] = 0;
                    compared[brackets] = false;
                } else {
                    return i;
                }
            } else if ("+-*/%".indexOf(c) >= 0) {
                wanted = true;
            } else if (c == '|' || c == '&') {
                wanted = true;
                compared[brackets] = false;
            } else if ("<=>".indexOf(c) >= 0 && !compared[brackets]) {
                wanted = true;
                compared[brackets] = true;
            } else if (c == ')' && brackets > 0) {
                brackets--;
                open -= 1 + denied[brackets];
                denied[brackets] = 0;
            } else {
                return i;
            }
        }
        return wanted || brackets > 0 ? text.length() : -1;
    }

    static int worth(String text, String names, int[] values) {
        for (String signs : new String[] {"|", "&", "<=>", "+-", "*/%"}) {
            int at = last(text, signs);
            if (at < 0) continue;
            int x = worth(text.substring(0, at), names, values);
            int y = worth(text.substring(at + 1), names, values);
            return joined(text.charAt(at), x, y);
        }
        if (text.charAt(0) == '!') return worth(text.substring(1), names, values) == 0 ? 1 : 0;
        if (text.charAt(0) == '(') return worth(text.substring(1, text.length() - 1), names, values);
        int name = names.indexOf(text.charAt(0));
        return name >= 0 ? values[name] : Integer.parseInt(text);
    }

    private static int last(String text, String signs) {
        int depth = 0;
        for (int i = text.length() - 1; i >= 0; i--) {
            char c = text.charAt(i);
            if (c == ')') depth++;
            if (c == '(') depth--;
            if (depth == 0 && signs.indexOf(c) >= 0) return i;
        }
        return -1;
    }

    private static int joined(char sign, long x, long y) {
        switch (sign) {
            case '|': return x != 0 || y != 0 ? 1 : 0;
            case '&': return x != 0 && y != 0 ? 1 : 0;
            case '<': return x < y ? 1 : 0;
            case '=': return x == y ? 1 : 0;
            case '>': return x > y ? 1 : 0;
            case '+': return (int) (x + y);
            case '-': return (int) (x - y);
            case '*': return (int) (x * y);
            case '/': return y == 0 ? 0 : (int) (x / y);
            default: return y == 0 ? 0 : (int) (x % y);
        }
    }
}
