import java.util.Random;

/** Runs of calls with drawn arguments, each answer beside that of the plain model. */
public final class ModelTest {
    private static final String[] SOME_TEXTS = {
        "s*9/(r+3)", "r<20*s", "99-r", "0-40", "(r+n)%7*5", "!(r>30)*s", "s/r", "n%2*s", "9999", "0-9999", "r=0|s>50&n<9",
        "v/10+r", "v<40", "v%(n+1)", "!!!v", "99", "200-r", "(((((v)))))", "n",
        "l", "c*100+l", "e*x-y", "x*y", "(c=9)*l", "9999*9999*9999*x", "!c", "x/y%3", "0-l",
        "r+", "1<2<3", "((((((1))))))", "", "12345", "rs", "!)", "(1", "c|v", "1&&2", "!!!!!!1", "z",
    };

    private final Due due;
    private final Random random;
    private final ThreeMagnets real = new ThreeMagnets();
    private final PlainModel plain = new PlainModel();
    private String where;
    private int made = 0;

    private ModelTest(Due due, int run) {
        this.due = due;
        this.random = new Random(run);
        this.where = "run " + run;
    }

    public static void main(String[] args) {
        Due due = new Due();
        for (int run = 0; run < 1500 && due.wrong() < 20; run++) {
            ModelTest test = new ModelTest(due, run);
            // Nothing is promised behind the 512th call, and one turn makes up to 16.
            int most = run % 10 == 0 ? 512 - 16 : 90;
            for (int k = 0; test.made <= most && due.wrong() < 20; k++) {
                test.call(k);
            }
        }
        due.end("ModelTest");
    }

    /** Mostly from a to b, now and then just beyond, seldom anything. */
    private int some(int a, int b) {
        int odd = random.nextInt(60);
        if (odd == 0) {
            return random.nextBoolean() ? a - 1 : b + 1;
        }
        if (odd == 1 && random.nextInt(4) == 0) {
            int[] ends = {Integer.MIN_VALUE, Integer.MAX_VALUE, -1, 0, random.nextInt()};
            return ends[random.nextInt(ends.length)];
        }
        if (odd == 2) {
            return random.nextBoolean() ? a : b;
        }
        return a + random.nextInt(b - a + 1);
    }

    private int place() {
        return random.nextInt(3) == 0 ? some(-100, 100) : some(-40, 40);
    }

    private int speed() {
        return random.nextInt(4) == 0 ? some(-9999, 9999) : some(-300, 300);
    }

    private int colour() {
        return random.nextInt(4) == 0 ? 9 : some(0, 5);
    }

    private int magnet() {
        return random.nextInt(8) == 0 ? some(0, 5) : some(0, 2);
    }

    private void is(String call, int got, int want) {
        made++;
        due.is(where + ": " + call, got, want);
    }

    private void call(int k) {
        int way = k < 6 ? k % 3 * 2 : random.nextInt(70);
        if (way < 18) {
            plateCall(way);
        } else if (way < 36) {
            bobCall(way - 18);
        } else if (way < 54) {
            pictureCall(way - 36);
        } else {
            otherCall(way - 54);
        }
    }

    private void plateCall(int way) {
        switch (way) {
            case 0: case 1: case 2: case 4: {
                int kind = some(0, 6);
                int x = place();
                int y = place();
                int s = some(0, 99);
                is("magnet " + kind + " " + x + " " + y + " " + s, real.magnet(kind, x, y, s), plain.magnet(kind, x, y, s));
                break;
            }
            case 3: case 5: case 6: {
                int m = magnet();
                int what = some(0, 5);
                is("magnetIs " + m + " " + what, real.magnetIs(m, what), plain.magnetIs(m, what));
                break;
            }
            case 7: {
                int m = magnet();
                int kind = some(0, 6);
                is("as " + m + " " + kind, real.as(m, kind), plain.as(m, kind));
                break;
            }
            case 8: {
                int m = magnet();
                int kind = some(0, 6);
                int x = place();
                int y = place();
                is("shift " + m + " " + kind + " " + x + " " + y, real.shift(m, kind, x, y), plain.shift(m, kind, x, y));
                break;
            }
            case 9:
                is("takeOff", real.takeOff(), plain.takeOff());
                break;
            case 10: case 11: {
                int rule = some(0, 5);
                int v = rule == 5 ? some(1, 2) : rule == 2 ? some(1, 80) : rule == 1 || random.nextInt(3) == 0 ? some(0, 99) : some(0, 30);
                is("rule " + rule + " " + v, real.rule(rule, v), plain.rule(rule, v));
                break;
            }
            case 12: {
                int x = place();
                int y = place();
                int what = some(0, 1);
                is("nearest " + x + " " + y + " " + what, real.nearest(x, y, what), plain.nearest(x, y, what));
                break;
            }
            case 13: case 14:
                tellText();
                break;
            case 15: {
                int use = some(0, 2);
                is("untell " + use, real.untell(use), plain.untell(use));
                break;
            }
            case 16: {
                long word = random.nextLong();
                int n = some(1, 8);
                is("feed " + word + " " + n, real.feed(word, n), plain.feed(word, n));
                break;
            }
            default: {
                int use = some(0, 2);
                is("text " + use, real.text(use), plain.text(use));
            }
        }
    }

    private void tellText() {
        int use = some(0, 2);
        String text = SOME_TEXTS[random.nextInt(SOME_TEXTS.length)];
        if (random.nextInt(3) == 0) {
            StringBuilder drawn = new StringBuilder();
            String signs = "rsnvclxye0123456789!()()+-*/%<=>|&";
            for (int n = random.nextInt(12); n >= 0; n--) {
                drawn.append(signs.charAt(random.nextInt(signs.length())));
            }
            text = drawn.toString();
        }
        for (int from = 0; from < text.length(); from += 8) {
            String part = text.substring(from, Math.min(text.length(), from + 8));
            long word = Due.word(part);
            is("feed " + part, real.feed(word, part.length()), plain.feed(word, part.length()));
        }
        is("text " + use + " " + text, real.text(use), plain.text(use));
    }

    private void bobCall(int way) {
        switch (way) {
            case 0: case 1: {
                int x = place();
                int y = place();
                is("let " + x + " " + y, real.let(x, y), plain.let(x, y));
                break;
            }
            case 2: {
                int u = speed();
                int v = speed();
                is("push " + u + " " + v, real.push(u, v), plain.push(u, v));
                break;
            }
            case 3: case 4: case 5: {
                int n = random.nextInt(3) == 0 ? some(1, 200) : some(1, 9);
                is("tick " + n, real.tick(n), plain.tick(n));
                break;
            }
            case 6: case 7: case 8: case 9: {
                int what = some(0, 5);
                is("bob " + what, real.bob(what), plain.bob(what));
                break;
            }
            case 10: case 11: {
                int x = place();
                int y = place();
                int u = speed();
                int v = speed();
                is("ends " + x + " " + y + " " + u + " " + v, real.ends(x, y, u, v), plain.ends(x, y, u, v));
                break;
            }
            case 12: case 13: {
                int x = place();
                int y = place();
                is("length " + x + " " + y, real.length(x, y), plain.length(x, y));
                break;
            }
            case 14: case 15: {
                int x = place();
                int y = place();
                is("doubt " + x + " " + y, real.doubt(x, y), plain.doubt(x, y));
                break;
            }
            default: {
                int m = magnet();
                int v = random.nextInt(2) == 0 ? some(0, 40) : some(0, 999);
                is("holds " + m + " " + v, real.holds(m, v), plain.holds(m, v));
            }
        }
    }

    private void pictureCall(int way) {
        switch (way) {
            case 0: case 1: {
                int x = some(-60, 10);
                int y = some(-60, 10);
                int w = some(1, 6);
                int h = random.nextBoolean() ? w : some(1, 6);
                int step = random.nextBoolean() ? some(1, 40) : some(1, 15);
                is("picture " + x + " " + y + " " + (10 * w + h) + " " + step, real.picture(x, y, 10 * w + h, step), plain.picture(x, y, 10 * w + h, step));
                break;
            }
            case 2: case 3: {
                int i = some(0, 5);
                int j = some(0, 5);
                is("cell " + i + " " + j, real.cell(i, j), plain.cell(i, j));
                break;
            }
            case 4: {
                int c = colour();
                is("share " + c, real.share(c), plain.share(c));
                break;
            }
            case 5: {
                int i = some(0, 5);
                int j = some(0, 5);
                is("edge " + i + " " + j, real.edge(i, j), plain.edge(i, j));
                break;
            }
            case 6: case 7: case 8: {
                int what = some(0, 3);
                is("seen " + what, real.seen(what), plain.seen(what));
                break;
            }
            case 9: {
                int c = colour();
                int d = some(0, 5);
                int what = some(0, 1);
                is("sure " + c + " " + d + " " + what, real.sure(c, d, what), plain.sure(c, d, what));
                break;
            }
            case 10: {
                int k = some(0, 3);
                is("turned " + k, real.turned(k), plain.turned(k));
                break;
            }
            case 11: {
                int part = some(0, 1);
                is("fair " + part, real.fair(part), plain.fair(part));
                break;
            }
            case 12: case 13: {
                int what = some(0, 1);
                is("want " + what, real.want(what), plain.want(what));
                break;
            }
            case 14: {
                int x = place();
                int y = place();
                int d = some(0, 50);
                int n = some(1, 40);
                is("throwsOf " + x + " " + y + " " + d + " " + n, real.throwsOf(x, y, d, n), plain.throwsOf(x, y, d, n));
                break;
            }
            case 15: case 16: {
                int c = colour();
                is("thrownAt " + c, real.thrownAt(c), plain.thrownAt(c));
                break;
            }
            default: {
                int v = random.nextInt();
                is("seed " + v, real.seed(v), plain.seed(v));
            }
        }
    }

    private void otherCall(int way) {
        switch (way) {
            case 0: case 1: {
                int m = magnet();
                int voice = some(0, 3);
                int x = random.nextBoolean() ? some(-50, 50) : random.nextInt();
                is("voice " + m + " " + voice + " " + x, real.voice(m, voice, x), plain.voice(m, voice, x));
                break;
            }
            case 2: {
                int i = some(0, 8);
                is("body " + i, real.body(i), plain.body(i));
                break;
            }
            case 3: {
                int s = some(0, 3);
                int bits = random.nextInt(6) == 0 ? 0 : 8 << random.nextInt(3);
                int n = some(0, 24);
                is("sheet " + s + " " + bits + " " + n, real.sheet(s, bits, n), plain.sheet(s, bits, n));
                break;
            }
            case 4: case 5: {
                int s = some(0, 3);
                int i = some(0, 11);
                int v = random.nextInt(5) == 0 ? random.nextInt() : some(0, 6);
                is("put " + s + " " + i + " " + v, real.put(s, i, v), plain.put(s, i, v));
                break;
            }
            case 6: {
                int s = some(0, 3);
                int i = some(0, 12);
                int o = random.nextBoolean() ? s : some(0, 3);
                int j = some(0, 12);
                int n = some(0, 6);
                is("move " + s + " " + i + " " + o + " " + j + " " + n, real.move(s, i, o, j, n), plain.move(s, i, o, j, n));
                break;
            }
            case 7: {
                int s = some(0, 3);
                is("magnets " + s, real.magnets(s), plain.magnets(s));
                break;
            }
            case 8:
                is("image", real.image(), plain.image());
                break;
            case 9:
                is("restore", real.restore(), plain.restore());
                break;
            case 10: {
                int v = colour();
                is("tell " + v, real.tell(v), plain.tell(v));
                break;
            }
            case 11:
                tellRow();
                break;
            case 12: {
                int j = some(0, 5);
                is("check " + j, real.check(j), plain.check(j));
                break;
            }
            case 13: case 14: {
                int what = some(0, 5);
                is("count " + what, real.count(what), plain.count(what));
                break;
            }
            default: {
                int k = some(1, 6);
                is("told " + k, real.told(k), plain.told(k));
            }
        }
    }

    /** A row as it is, told and checked; now and then with one number more or less. */
    private void tellRow() {
        int j = some(0, 2);
        int n = random.nextInt(8);
        for (int i = 0; i < n; i++) {
            int colour = Math.max(0, real.cell(i, j));
            plain.cell(i, j);
            made++;
            is("tell " + colour, real.tell(colour), plain.tell(colour));
        }
        is("check " + j, real.check(j), plain.check(j));
    }
}
