/** Counts and prints the answers that are not the ones that are due. */
public final class Due {
    public static final int LOW = -1000000;
    public static final int BEYOND = LOW - 1;
    public static final int NONE = LOW - 2;
    public static final int STATE = LOW - 3;
    public static final int FULL = LOW - 4;
    public static final int KIND = LOW - 5;
    public static final int PARTED = LOW - 6;

    private int wrong = 0;
    private int asked = 0;

    public void is(String what, long got, long want) {
        asked++;
        if (got != want) {
            wrong++;
            System.out.println(what + " answered " + got + ", due is " + want);
        }
    }

    public void isTrue(String what, boolean holds) {
        is(what, holds ? 1 : 0, 1);
    }

    public int wrong() {
        return wrong;
    }

    public void end(String test) {
        System.out.println(test + ": " + asked + " answers, " + wrong + " not as due");
        if (asked == 0 || wrong != 0) {
            System.exit(1);
        }
    }

    /** Feeds a text to the tape, eight bytes at a time. */
    public static void feed(ThreeMagnets x, String text) {
        for (int from = 0; from < text.length(); from += 8) {
            String part = text.substring(from, Math.min(text.length(), from + 8));
            x.feed(word(part), part.length());
        }
    }

    public static long word(String part) {
        long word = 0;
        for (int k = 0; k < part.length(); k++) {
            word |= (part.charAt(k) & 255L) << (8 * k);
        }
        return word;
    }

    public static int text(ThreeMagnets x, int use, String text) {
        feed(x, text);
        return x.text(use);
    }
}
