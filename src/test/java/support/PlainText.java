/** TEXTS told anew for the tests: by splitting at the last sign that stands outside all brackets. */
public final class PlainText {
    private static final String[] SIGNS = {"|", "&", "<=>", "+-", "*/%"};

    private PlainText() {
    }

    /** The FAULT by its definition; -1: it is a TEXT. */
    public static int fault(String text, String names) {
        for (int k = 0; k < text.length(); k++) {
            if (!canGoOn(text.substring(0, k + 1), names)) {
                return k;
            }
        }
        return isText(text, names, 0, 0) ? -1 : text.length();
    }

    private static boolean canGoOn(String start, String names) {
        String closing = "";
        for (int k = 0; k <= 5; k++) {
            if (isText(start + closing, names, 0, 0) || isText(start + "0" + closing, names, 0, 0)) {
                return true;
            }
            closing += ")";
        }
        return false;
    }

    public static boolean isText(String t, String names, int level, int open) {
        if (level == 5) {
            if (t.startsWith("!")) {
                return open < 5 && isText(t.substring(1), names, 5, open + 1);
            }
            if (t.startsWith("(") && t.endsWith(")") && t.length() > 1) {
                return open < 5 && isText(t.substring(1, t.length() - 1), names, 0, open + 1);
            }
            return t.matches("[0-9]{1,4}") || (t.length() == 1 && names.contains(t));
        }
        int at = lastOf(t, SIGNS[level]);
        if (at < 0) {
            return isText(t, names, level + 1, open);
        }
        int leftLevel = level == 2 ? 3 : level;
        return isText(t.substring(0, at), names, leftLevel, open) && isText(t.substring(at + 1), names, level + 1, open);
    }

    /** The value of a TEXT that is one. */
    public static int value(String t, String names, int[] of, int level) {
        if (level == 5) {
            if (t.startsWith("!")) {
                return value(t.substring(1), names, of, 5) == 0 ? 1 : 0;
            }
            if (t.startsWith("(")) {
                return value(t.substring(1, t.length() - 1), names, of, 0);
            }
            return names.contains(t) ? of[names.indexOf(t)] : Integer.parseInt(t);
        }
        int at = lastOf(t, SIGNS[level]);
        if (at < 0) {
            return value(t, names, of, level + 1);
        }
        long a = value(t.substring(0, at), names, of, level);
        long b = value(t.substring(at + 1), names, of, level + 1);
        switch (t.charAt(at)) {
            case '|': return a != 0 || b != 0 ? 1 : 0;
            case '&': return a != 0 && b != 0 ? 1 : 0;
            case '<': return a < b ? 1 : 0;
            case '=': return a == b ? 1 : 0;
            case '>': return a > b ? 1 : 0;
            case '+': return (int) (a + b);
            case '-': return (int) (a - b);
            case '*': return (int) (a * b);
            case '/': return b == 0 ? 0 : (int) (a / b);
            default: return b == 0 ? 0 : (int) (a % b);
        }
    }

    private static int lastOf(String t, String signs) {
        int open = 0;
        for (int k = t.length() - 1; k >= 0; k--) {
            char sign = t.charAt(k);
            open += sign == ')' ? 1 : sign == '(' ? -1 : 0;
            if (open == 0 && signs.indexOf(sign) >= 0) {
                return k;
            }
        }
        return -1;
    }
}
