import java.util.Random;

/** Promises 9 to 11: the tape and its texts. */
public final class TextTest {
    private static final Due due = new Due();

    public static void main(String[] args) {
        promise9Feed();
        promise10Faults();
        promise10Text();
        promise10Names();
        promise10Values();
        promise10HeldRub();
        promise10DrawnTexts();
        promise11Untell();
        due.end("TextTest");
    }

    private static void promise9Feed() {
        ThreeMagnets x = new ThreeMagnets();
        due.is("9 n", x.feed(0, 0), Due.BEYOND);
        due.is("9 n", x.feed(0, 9), Due.BEYOND);
        due.is("9 n", x.feed(0, -1), Due.BEYOND);
        due.is("9 lowest first", x.feed(Due.word("99-98+s!"), 7), 7);
        due.is("9 text", x.text(0), 1);
        due.is("9 empty then", x.count(2), 0);
        x.magnet(0, 0, 0, 5);
        due.is("9 value", x.magnetIs(0, 5), 6);
        for (int k = 1; k <= 7; k++) {
            due.is("9 eight", x.feed(-1L, 8), 8 * k);
        }
        due.is("9 full", x.feed(-1L, 5), Due.FULL);
        due.is("9 beyond ahead of full", x.feed(-1L, 9), Due.BEYOND);
        due.is("9 stays", x.count(2), 56);
        due.is("9 to the end", x.feed(-1L, 4), 60);
        due.is("9 full", x.feed(-1L, 1), Due.FULL);
        due.is("9 sixty", x.count(2), 60);
    }

    private static void fault(int use, String text, int at) {
        ThreeMagnets x = new ThreeMagnets();
        due.is("10 text " + use + " " + text, Due.text(x, use, text), at < 0 ? 1 : -10 - at);
        due.is("10 the tape is empty", x.count(2), 0);
        due.is("10 there is one", x.untell(use), at < 0 ? 1 : 0);
        for (int k = 1; k <= 6; k++) {
            due.is("10 no error", x.told(k), 0);
        }
    }

    private static void promise10Faults() {
        fault(0, "", 0);
        fault(0, "r", -1);
        fault(0, "1234", -1);
        fault(0, "12345", 4);
        fault(0, "0000", -1);
        fault(0, "r+", 2);
        fault(0, "r r", 1);
        fault(0, "rs", 1);
        fault(0, "1r", 1);
        fault(0, "r1", 1);
        fault(0, "-r", 0);
        fault(0, "r--s", 2);
        fault(0, "1<2<3", 3);
        fault(0, "1<2=3", 3);
        fault(0, "(1<2)<3", -1);
        fault(0, "1<2&2>1|3=3", -1);
        fault(0, "()", 1);
        fault(0, "(r", 2);
        fault(0, "(r))", 3);
        fault(0, "r)", 1);
        fault(0, "!", 1);
        fault(0, "!!!!!r", -1);
        fault(0, "!!!!!!r", 5);
        fault(0, "((((((r", 5);
        fault(0, "(((((r)))))", -1);
        fault(0, "(!(!(r)))+(!(!(r)))", -1);
        fault(0, "(!(!(r)))+(!(!(!r)))", 15);
        fault(0, "!(!(!(!r", 5);
        fault(0, "!(!(!r))*(((((n)))))", -1);
        fault(0, "r&&s", 2);
        fault(0, "r|", 2);
        fault(0, "\u0000", 0);
        fault(0, "r\u00ff", 1);
        fault(0, "R", 0);
        String sums = "r+r+r+r+r+r+r+r+r+r+r+r+r+r+r+r+r+r+r+r+r+r+r+r+r+r+r+r+r+r+";
        fault(0, sums, 60);
        fault(0, sums.substring(0, 59), -1);
    }

    private static void promise10Names() {
        String all = "abcdefghijklmnopqrstuvwxyz";
        String[] names = {"rsn", "vrn", "clxye"};
        for (int use = 0; use < 3; use++) {
            for (int k = 0; k < all.length(); k++) {
                fault(use, "1+" + all.charAt(k), names[use].indexOf(all.charAt(k)) >= 0 ? -1 : 2);
            }
        }
    }

    private static void promise10Text() {
        ThreeMagnets x = new ThreeMagnets();
        x.magnet(0, 0, 0, 5);
        due.is("10 told", Due.text(x, 0, "s+1"), 1);
        due.is("10 value", x.magnetIs(0, 5), 6);
        Due.feed(x, "s+2");
        due.is("10 beyond", x.text(3), Due.BEYOND);
        due.is("10 beyond", x.text(-1), Due.BEYOND);
        due.is("10 the tape stays", x.count(2), 3);
        due.is("10 in place of one ahead", x.text(0), 1);
        due.is("10 value", x.magnetIs(0, 5), 7);
        due.is("10 fault", Due.text(x, 0, "s+"), -12);
        due.is("10 the one ahead stays", x.magnetIs(0, 5), 7);
        due.is("10 the tape is empty, too", x.count(2), 0);
    }

    /** The value of a text by the pull that it gives; r is 3, s is 50, n is 0. */
    private static void value(String text, int want) {
        ThreeMagnets x = new ThreeMagnets();
        x.magnet(0, 3, 0, 50);
        due.is("10 text " + text, Due.text(x, 0, text), 1);
        due.is("10 value of " + text, x.magnetIs(0, 5), want);
    }

    private static void promise10Values() {
        value("r", 3);
        value("s", 50);
        value("n", 0);
        value("1+2*3", 7);
        value("(1+2)*3", 9);
        value("9-2-3", 4);
        value("100/7/2", 7);
        value("0-7/2", -3);
        value("(0-7)/2", -3);
        value("(0-7)%3", -1);
        value("7%(0-3)", 1);
        value("7/0", 0);
        value("7%0", 0);
        value("2*3%4", 2);
        value("1<2", 1);
        value("2<2", 0);
        value("2>1", 1);
        value("2>2", 0);
        value("2=2", 1);
        value("2=3", 0);
        value("7&9", 1);
        value("7&0", 0);
        value("0|9", 1);
        value("0|0", 0);
        value("1|1&0", 1);
        value("1&1<0", 0);
        value("1+1<3", 1);
        value("!7", 0);
        value("!0+5", 6);
        value("!!7", 1);
        value("!(1>2)*9", 9);
        value("9999", 999);
        value("0-9999", -999);
        value("999", 999);
        value("1000", 999);
        value("9999*9999*9999", -999);
        value("9999*9999*99", 999);
        value("(9999*9999*9999<0)*5", 5);
        value("0007", 7);
    }

    private static void promise10HeldRub() {
        ThreeMagnets x = Worlds.still();
        x.push(100, 0);
        Due.text(x, 1, "999");
        x.tick(1);
        due.is("10 rub of 99 at most", x.bob(2), 1);
        x.push(100, 0);
        Due.text(x, 1, "0-5");
        x.tick(1);
        due.is("10 rub of 0 at least", x.bob(2), 100);
        x.push(30, -20);
        Due.text(x, 1, "v");
        x.tick(1);
        due.is("10 rub by v", x.bob(2), 15);
        due.is("10 rub by v", x.bob(3), -10);
        x.push(100, 0);
        Due.text(x, 1, "(r=999)*10+(n=3)*20");
        x.tick(1);
        due.is("10 rub by r and n", x.bob(2), 70);
        x.let(0, 0);
        x.magnet(2, 5, 0, 0);
        x.push(100, 0);
        Due.text(x, 1, "(r=5)*10");
        x.tick(1);
        due.is("10 rub by r of a pushing one", x.bob(2), 90);
    }

    private static void promise10DrawnTexts() {
        Random random = new Random(5);
        String signs = "rsn0123456789!()()+-*/%<=>|&";
        for (int k = 0; k < 4000; k++) {
            StringBuilder text = new StringBuilder(drawn(random, 4));
            if (text.length() > 58) {
                text.setLength(58);
            }
            if (random.nextBoolean()) {
                text.insert(random.nextInt(text.length() + 1), signs.charAt(random.nextInt(signs.length())));
            }
            if (random.nextInt(4) == 0) {
                text.deleteCharAt(random.nextInt(text.length()));
            }
            compare(text.toString());
        }
    }

    private static void compare(String text) {
        ThreeMagnets x = new ThreeMagnets();
        x.magnet(0, 3, 0, 50);
        int fault = PlainText.fault(text, "rsn");
        due.is("10 drawn text " + text, Due.text(x, 0, text), fault < 0 ? 1 : -10 - fault);
        if (fault < 0) {
            int value = PlainText.value(text, "rsn", new int[] {3, 50, 0}, 0);
            due.is("10 value of drawn " + text, x.magnetIs(0, 5), Math.max(-999, Math.min(999, value)));
        }
    }

    private static String drawn(Random random, int deep) {
        int way = deep == 0 ? random.nextInt(2) : random.nextInt(7);
        switch (way) {
            case 0:
                return "rsn".substring(random.nextInt(3)).substring(0, 1);
            case 1:
                return "" + random.nextInt(random.nextBoolean() ? 10 : 10000);
            case 2:
                return "!" + drawn(random, deep - 1);
            case 3:
                return "(" + drawn(random, deep - 1) + ")";
            default:
                return drawn(random, deep - 1) + "+-*/%<=>|&".charAt(random.nextInt(10)) + drawn(random, deep - 1);
        }
    }

    private static void promise11Untell() {
        ThreeMagnets x = new ThreeMagnets();
        x.magnet(0, 10, 0, 50);
        for (int use = 0; use < 3; use++) {
            due.is("11 none", x.untell(use), 0);
            Due.text(x, use, "7");
        }
        due.is("11 told", x.magnetIs(0, 5), 7);
        due.is("11 there was", x.untell(0), 1);
        due.is("11 as at first", x.magnetIs(0, 5), 34);
        due.is("11 no more", x.untell(0), 0);
        due.is("11 others stay", x.untell(1), 1);
        due.is("11 others stay", x.untell(2), 1);
        due.is("11 beyond", x.untell(3), Due.BEYOND);
        due.is("11 beyond", x.untell(-1), Due.BEYOND);
    }
}
