/** Each refused call: the ERROR that is asked first, that told() counts it alone, and that nothing else has changed. */
public final class AfterErrorsTest {
    private static final int MOST = Integer.MAX_VALUE;
    private static final int LEAST = Integer.MIN_VALUE;
    private static final Due due = new Due();

    private interface World {
        ThreeMagnets made();
    }

    private interface Call {
        int on(ThreeMagnets x);
    }

    public static void main(String[] args) {
        magnetCalls();
        magnetPlaces();
        textCalls();
        bobCalls();
        runCalls();
        pictureCalls();
        cellCalls();
        pictureReads();
        throwCalls();
        voiceCalls();
        sheetCalls();
        moveCalls();
        nothingThere();
        imageCalls();
        checkCalls();
        due.end("AfterErrorsTest");
    }

    private static void is(String what, World world, int error, Call call) {
        is(what, world, error, call, x -> 0);
    }

    /** The call is refused; what shows then is as on a twin on which a free call stands in its place. */
    private static void is(String what, World world, int error, Call call, Call inItsPlace) {
        ThreeMagnets one = world.made();
        ThreeMagnets twin = world.made();
        due.is(what, call.on(one), error);
        inItsPlace.on(twin);
        for (int k = 1; k <= 6; k++) {
            due.is(what + ": told " + k, one.told(k), twin.told(k) + (error == Due.LOW - k ? 1 : 0));
        }
        Probe.same(due, what, one, twin);
    }

    private static void magnetCalls() {
        is("magnet, no kind", Worlds::rich, Due.BEYOND, x -> x.magnet(-1, 0, 0, 0));
        is("magnet, no kind", Worlds::rich, Due.BEYOND, x -> x.magnet(7, 0, 0, 0));
        is("magnet, strength", Worlds::rich, Due.BEYOND, x -> x.magnet(0, 0, 0, -1));
        is("magnet, strength", Worlds::rich, Due.BEYOND, x -> x.magnet(0, 0, 0, 100));
        is("magnet, full", Worlds::full, Due.FULL, x -> x.magnet(0, 0, 0, 0));
        is("magnet, kind ahead of full", Worlds::full, Due.BEYOND, x -> x.magnet(7, 0, 0, 0));
        is("magnet, place ahead of full", Worlds::full, Due.BEYOND, x -> x.magnet(0, 0, 101, 0));
        is("magnet, strength ahead of full", Worlds::full, Due.BEYOND, x -> x.magnet(0, 0, 0, 100));
        for (int m : new int[] {-1, 3, 6, LEAST, MOST}) {
            is("magnetIs " + m, Worlds::rich, Due.BEYOND, x -> x.magnetIs(m, 0));
            is("as " + m, Worlds::rich, Due.BEYOND, x -> x.as(m, 0));
            is("shift " + m, Worlds::rich, Due.BEYOND, x -> x.shift(m, 0, 0, 0));
            is("holds " + m, Worlds::rich, Due.BEYOND, x -> x.holds(m, 0));
            is("voice " + m, Worlds::rich, Due.BEYOND, x -> x.voice(m, 0, 0));
        }
        is("magnetIs, what", Worlds::rich, Due.BEYOND, x -> x.magnetIs(0, -1));
        is("magnetIs, what", Worlds::rich, Due.BEYOND, x -> x.magnetIs(0, 6));
        is("as, no kind ahead of not of that kind", Worlds::rich, Due.BEYOND, x -> x.as(0, 7));
        is("as, no kind ahead of not of that kind", Worlds::rich, Due.BEYOND, x -> x.as(0, -1));
        is("as, no magnet", Worlds::rich, Due.BEYOND, x -> x.as(3, 1));
        is("as, not of that kind", Worlds::rich, Due.KIND, x -> x.as(0, 1));
        is("as, not of that kind", Worlds::rich, Due.KIND, x -> x.as(1, 2));
        is("shift, no kind", Worlds::rich, Due.BEYOND, x -> x.shift(0, -1, 1, 1));
        is("shift, no kind", Worlds::rich, Due.BEYOND, x -> x.shift(0, 7, 1, 1));
        for (int rule = 0; rule < 6; rule++) {
            int one = rule;
            int least = rule == 2 || rule == 5 ? 1 : 0;
            int most = rule == 2 ? 80 : rule == 5 ? 2 : 99;
            is("rule " + rule, Worlds::rich, Due.BEYOND, x -> x.rule(one, least - 1));
            is("rule " + rule, Worlds::rich, Due.BEYOND, x -> x.rule(one, most + 1));
        }
        is("no rule", Worlds::rich, Due.BEYOND, x -> x.rule(-1, 1));
        is("no rule", Worlds::rich, Due.BEYOND, x -> x.rule(6, 1));
        is("nearest, what", Worlds::rich, Due.BEYOND, x -> x.nearest(0, 0, -1));
        is("nearest, what", Worlds::rich, Due.BEYOND, x -> x.nearest(0, 0, 2));
    }

    /** The first PLACES beyond, for each call that takes one. */
    private static void magnetPlaces() {
        int[][] places = {{-101, 0}, {101, 0}, {0, -101}, {0, 101}, {LEAST, 0}, {0, LEAST}, {MOST, 0}, {0, MOST}};
        for (int[] at : places) {
            String where = " at " + at[0] + " " + at[1];
            is("magnet" + where, Worlds::rich, Due.BEYOND, x -> x.magnet(0, at[0], at[1], 0));
            is("shift" + where, Worlds::rich, Due.BEYOND, x -> x.shift(0, 1, at[0], at[1]));
            is("nearest" + where, Worlds::rich, Due.BEYOND, x -> x.nearest(at[0], at[1], 0));
            is("let" + where, Worlds::rich, Due.BEYOND, x -> x.let(at[0], at[1]));
            is("ends" + where, Worlds::rich, Due.BEYOND, x -> x.ends(at[0], at[1], 0, 0));
            is("length" + where, Worlds::rich, Due.BEYOND, x -> x.length(at[0], at[1]));
            is("doubt" + where, Worlds::rich, Due.BEYOND, x -> x.doubt(at[0], at[1]));
            is("picture" + where, Worlds::rich, Due.BEYOND, x -> x.picture(at[0], at[1], 11, 1));
            is("throwsOf" + where, Worlds::rich, Due.BEYOND, x -> x.throwsOf(at[0], at[1], 0, 1));
        }
        int[][] corners = {{-100, -100}, {100, -100}, {-100, 100}, {100, 100}};
        for (int[] at : corners) {
            ThreeMagnets x = new ThreeMagnets();
            String where = " at " + at[0] + " " + at[1];
            due.is("magnet" + where, x.magnet(0, at[0], at[1], 9), 0);
            due.is("shift" + where, x.shift(0, 1, at[0], at[1]), 0);
            due.is("nearest" + where, x.nearest(at[0], at[1], 1), 0);
            due.is("let" + where, x.let(at[0], at[1]), 1);
            due.is("ends" + where, x.ends(at[0], at[1], 0, 0), 0);
            due.is("length" + where, x.length(at[0], at[1]), 0);
            due.is("doubt" + where, x.doubt(at[0], at[1]), 0);
            due.is("picture" + where, x.picture(at[0], at[1], 11, 1), 1);
            due.is("throwsOf" + where, x.throwsOf(at[0], at[1], 0, 1), 1);
        }
    }

    private static void textCalls() {
        for (int n : new int[] {0, 9, -1, LEAST, MOST}) {
            is("feed " + n, Worlds::rich, Due.BEYOND, x -> x.feed(0x3939393939393939L, n));
            is("feed " + n + " ahead of full", Worlds::full, Due.BEYOND, x -> x.feed(0x3939393939393939L, n));
        }
        for (int n = 1; n <= 8; n++) {
            int many = n;
            is("feed, full", Worlds::full, Due.FULL, x -> x.feed(0x3939393939393939L, many));
        }
        World nearlyFull = () -> {
            ThreeMagnets x = Worlds.rich();
            Due.feed(x, "+1".repeat(24));
            return x;
        };
        is("feed, one more than there is room for", nearlyFull, Due.FULL, x -> x.feed(0x312b312b312b312bL, 8));
        due.is("feed, as many as there is room for", nearlyFull.made().feed(0x2b312b312b312bL, 7), 60);
        for (int use : new int[] {-1, 3, LEAST, MOST}) {
            is("text " + use, Worlds::rich, Due.BEYOND, x -> x.text(use));
            is("untell " + use, Worlds::rich, Due.BEYOND, x -> x.untell(use));
        }
    }

    private static void bobCalls() {
        for (int u : new int[] {-10000, 10000, LEAST, MOST}) {
            is("push " + u, Worlds::rich, Due.BEYOND, x -> x.push(u, 0));
            is("push 0 " + u, Worlds::rich, Due.BEYOND, x -> x.push(0, u));
            is("ends by " + u, Worlds::rich, Due.BEYOND, x -> x.ends(0, 0, u, 0));
            is("ends by 0 " + u, Worlds::rich, Due.BEYOND, x -> x.ends(0, 0, 0, u));
        }
        for (int n : new int[] {0, -1, 201, LEAST, MOST}) {
            is("tick " + n, Worlds::rich, Due.BEYOND, x -> x.tick(n));
            is("tick " + n + " ahead of state", Worlds::full, Due.BEYOND, x -> x.tick(n));
        }
        is("tick, above 9999", Worlds::full, Due.STATE, x -> x.tick(2));
        is("tick, above 9999", Worlds::full, Due.STATE, x -> x.tick(200));
        for (int what : new int[] {-1, 6, LEAST, MOST}) {
            is("bob " + what, Worlds::rich, Due.BEYOND, x -> x.bob(what));
            is("count " + what, Worlds::rich, Due.BEYOND, x -> x.count(what));
        }
    }

    private static void runCalls() {
        is("holds, v", Worlds::rich, Due.BEYOND, x -> x.holds(0, -1));
        is("holds, v", Worlds::rich, Due.BEYOND, x -> x.holds(0, 1000));
        for (int n : new int[] {0, 7, LEAST, MOST}) {
            is("told " + n, Worlds::rich, Due.BEYOND, x -> x.told(n));
        }
    }

    private static void pictureCalls() {
        for (int wh : new int[] {0, 1, 6, 10, 16 - 6, 17, 20, 60, 67, 70, 71, 76, 110, -11, -66, LEAST, MOST}) {
            is("picture " + wh, Worlds::rich, Due.BEYOND, x -> x.picture(0, 0, wh, 1));
        }
        for (int step : new int[] {0, -1, 41, LEAST, MOST}) {
            is("picture by " + step, Worlds::rich, Due.BEYOND, x -> x.picture(0, 0, 11, step));
        }
        is("picture, a cell beyond", Worlds::rich, Due.BEYOND, x -> x.picture(61, 0, 21, 40));
        is("picture, a cell beyond", Worlds::rich, Due.BEYOND, x -> x.picture(0, 61, 12, 40));
        is("picture, a cell beyond", Worlds::rich, Due.BEYOND, x -> x.picture(96, 0, 61, 1));
        is("picture, a cell beyond", Worlds::rich, Due.BEYOND, x -> x.picture(0, 96, 16, 1));
        is("picture, the first cell beyond", Worlds::rich, Due.BEYOND, x -> x.picture(-101, 0, 21, 40));
        is("picture, the first cell beyond", Worlds::rich, Due.BEYOND, x -> x.picture(0, -101, 12, 40));
        is("picture, none then", Worlds::bare, Due.BEYOND, x -> x.picture(0, 0, 67, 1));
    }

    private static void cellCalls() {
        int[][] cells = {{-1, 0}, {4, 0}, {0, -1}, {0, 3}, {LEAST, 0}, {MOST, 0}, {0, LEAST}, {0, MOST}, {3, 3}};
        for (int[] at : cells) {
            is("cell " + at[0] + " " + at[1], Worlds::rich, Due.BEYOND, x -> x.cell(at[0], at[1]));
            is("edge " + at[0] + " " + at[1], Worlds::rich, Due.BEYOND, x -> x.edge(at[0], at[1]));
            is("cell, none first", Worlds::bare, Due.NONE, x -> x.cell(at[0], at[1]));
            is("edge, none first", Worlds::bare, Due.NONE, x -> x.edge(at[0], at[1]));
        }
        is("cell, none", Worlds::bare, Due.NONE, x -> x.cell(0, 0));
        is("edge, none", Worlds::bare, Due.NONE, x -> x.edge(0, 0));
    }

    /** BEYOND is asked ahead of NONE. */
    private static void beyondFirst(String what, Call call) {
        is(what, Worlds::rich, Due.BEYOND, call);
        is(what + ", ahead of none", Worlds::bare, Due.BEYOND, call);
    }

    private static void pictureReads() {
        for (int colour : new int[] {-1, 6, 7, 8, 10, LEAST, MOST}) {
            beyondFirst("share " + colour, x -> x.share(colour));
            beyondFirst("sure " + colour, x -> x.sure(colour, 0, 0));
            beyondFirst("thrownAt " + colour, x -> x.thrownAt(colour));
        }
        for (int out : new int[] {-1, LEAST, MOST}) {
            beyondFirst("seen", x -> x.seen(out));
            beyondFirst("sure, d", x -> x.sure(0, out, 0));
            beyondFirst("sure, what", x -> x.sure(0, 0, out));
            beyondFirst("turned", x -> x.turned(out));
            beyondFirst("fair", x -> x.fair(out));
            beyondFirst("want", x -> x.want(out));
        }
        beyondFirst("seen", x -> x.seen(4));
        beyondFirst("sure, d", x -> x.sure(9, 6, 0));
        beyondFirst("sure, what", x -> x.sure(9, 0, 2));
        beyondFirst("turned", x -> x.turned(4));
        beyondFirst("fair", x -> x.fair(2));
        beyondFirst("want", x -> x.want(2));
        is("share, none", Worlds::bare, Due.NONE, x -> x.share(0));
        is("seen, none", Worlds::bare, Due.NONE, x -> x.seen(2));
        is("sure, none", Worlds::bare, Due.NONE, x -> x.sure(9, 5, 1));
        is("turned, none", Worlds::bare, Due.NONE, x -> x.turned(3));
        is("turned, unlike", Worlds::rich, Due.STATE, x -> x.turned(0));
        is("turned, unlike", Worlds::rich, Due.STATE, x -> x.turned(3));
        is("fair, none", Worlds::bare, Due.NONE, x -> x.fair(0));
        is("want, none", Worlds::bare, Due.NONE, x -> x.want(0));
        is("thrownAt, none yet", Worlds::bare, Due.NONE, x -> x.thrownAt(0));
    }

    private static void throwCalls() {
        is("throwsOf, d", Worlds::rich, Due.BEYOND, x -> x.throwsOf(0, 0, -1, 1));
        is("throwsOf, d", Worlds::rich, Due.BEYOND, x -> x.throwsOf(0, 0, 51, 1));
        is("throwsOf, n", Worlds::rich, Due.BEYOND, x -> x.throwsOf(0, 0, 0, 0));
        is("throwsOf, n", Worlds::rich, Due.BEYOND, x -> x.throwsOf(0, 0, 0, -1));
        is("throwsOf, n", Worlds::rich, Due.BEYOND, x -> x.throwsOf(0, 0, 0, 41));
        is("throwsOf, none yet then", Worlds::bare, Due.BEYOND, x -> x.throwsOf(0, 0, 0, 41));
    }

    private static ThreeMagnets parting() {
        ThreeMagnets x = Worlds.rich();
        x.takeOff();
        x.magnet(4, 7, 7, 2);
        x.voice(0, 2, 5);
        return x;
    }

    private static void voiceCalls() {
        is("voice, no voice", Worlds::rich, Due.BEYOND, x -> x.voice(0, -1, 0));
        is("voice, no voice", Worlds::rich, Due.BEYOND, x -> x.voice(0, 4, 0));
        is("voice, no voice", Worlds::rich, Due.BEYOND, x -> x.voice(0, MOST, 0));
        is("voice, parted", AfterErrorsTest::parting, Due.PARTED, x -> x.voice(2, 3, 9));
        is("voice, beyond ahead of parted", AfterErrorsTest::parting, Due.BEYOND, x -> x.voice(3, 3, 9));
        for (int i : new int[] {-1, 6, 30, LEAST, MOST}) {
            is("body " + i, Worlds::rich, Due.NONE, x -> x.body(i));
        }
        is("body, none", Worlds::bare, Due.NONE, x -> x.body(0));
        ThreeMagnets x = parting();
        due.is("voice, parted", x.voice(2, 3, 9), Due.PARTED);
        due.is("voice, as ever behind it", x.voice(2, 0, 8), 8 / 2 + 2 - 1);
        due.is("voice, its trace", x.count(4), 3);
        due.is("voice, parted again", x.voice(2, 3, 9), Due.PARTED);
        due.is("voice, told twice", x.told(6), 2);
    }

    private static void sheetCalls() {
        for (int sheet : new int[] {-1, 4, LEAST, MOST}) {
            is("sheet " + sheet, Worlds::rich, Due.BEYOND, x -> x.sheet(sheet, 8, 1));
            is("sheet " + sheet + " to be missing", Worlds::rich, Due.BEYOND, x -> x.sheet(sheet, 0, 1));
            is("sheet " + sheet + " ahead of state", Worlds::rich, Due.BEYOND, x -> x.sheet(sheet, 8, -1));
            is("put " + sheet, Worlds::rich, Due.BEYOND, x -> x.put(sheet, 0, 1));
            is("magnets " + sheet, Worlds::rich, Due.BEYOND, x -> x.magnets(sheet));
        }
        for (int bits : new int[] {-8, 1, 4, 7, 9, 15, 17, 24, 31, 33, 64, LEAST, MOST}) {
            is("sheet by " + bits, Worlds::rich, Due.BEYOND, x -> x.sheet(0, bits, 1));
            is("sheet by " + bits + " ahead of state", Worlds::rich, Due.BEYOND, x -> x.sheet(0, bits, -1));
        }
        for (int bits = 8; bits <= 32; bits *= 2) {
            int many = bits;
            is("sheet, n below 0", Worlds::rich, Due.STATE, x -> x.sheet(0, many, -1));
            is("sheet, n below 0", Worlds::rich, Due.STATE, x -> x.sheet(3, many, LEAST));
            is("sheet, n", Worlds::rich, Due.BEYOND, x -> x.sheet(0, many, 25));
            is("sheet, n", Worlds::rich, Due.BEYOND, x -> x.sheet(3, many, MOST));
        }
        for (int i : new int[] {-1, 8, 24, LEAST, MOST}) {
            is("put at " + i, Worlds::rich, Due.BEYOND, x -> x.put(0, i, 1));
            is("put, missing ahead of " + i, Worlds::rich, Due.NONE, x -> x.put(3, i, 1));
        }
        is("put, missing", Worlds::rich, Due.NONE, x -> x.put(3, 0, 1));
        is("magnets, missing", Worlds::rich, Due.NONE, x -> x.magnets(3));
        is("magnets, missing", Worlds::full, Due.NONE, x -> x.magnets(3));
    }

    private static void moveCalls() {
        for (int sheet : new int[] {-1, 4, LEAST, MOST}) {
            is("move of " + sheet, Worlds::rich, Due.BEYOND, x -> x.move(sheet, 0, 0, 0, 1));
            is("move to " + sheet, Worlds::rich, Due.BEYOND, x -> x.move(0, 0, sheet, 0, 1));
            is("move to " + sheet + " ahead of none", Worlds::rich, Due.BEYOND, x -> x.move(3, 0, sheet, 0, 1));
        }
        is("move, missing", Worlds::rich, Due.NONE, x -> x.move(3, 0, 0, 0, 1));
        is("move, missing", Worlds::rich, Due.NONE, x -> x.move(0, 0, 3, 0, 1));
        is("move, both missing", Worlds::rich, Due.NONE, x -> x.move(3, 0, 3, 0, 0));
        is("move, missing ahead of n", Worlds::rich, Due.NONE, x -> x.move(3, 0, 0, 0, -1));
        is("move, unlike", Worlds::rich, Due.KIND, x -> x.move(0, 0, 1, 0, 1));
        is("move, unlike", Worlds::rich, Due.KIND, x -> x.move(1, 0, 0, 0, 0));
        is("move, unlike ahead of n", Worlds::rich, Due.KIND, x -> x.move(0, -1, 1, -1, -1));
        int[][] out = {{0, 0, -1}, {-1, 0, 1}, {0, -1, 1}, {0, 0, 5}, {5, 0, 4}, {4, 1, 4}, {8, 0, 1}, {0, 4, 1}, {-1, 0, 0}, {0, -1, 0},
            {LEAST, 0, 1}, {0, LEAST, 1}, {0, 0, LEAST}, {MOST, 0, 1}, {0, MOST, 1}, {0, 0, MOST}, {1, 1, MOST}, {MOST, MOST, MOST}};
        for (int[] at : out) {
            is("move " + at[0] + " " + at[1] + " " + at[2], Worlds::rich, Due.BEYOND, x -> x.move(1, at[0], 2, at[1], at[2]));
        }
    }

    private static void nothingThere() {
        World empty = ThreeMagnets::new;
        is("takeOff", empty, Due.NONE, x -> x.takeOff());
        is("nearest", empty, Due.NONE, x -> x.nearest(0, 0, 0));
        is("nearest", empty, Due.NONE, x -> x.nearest(100, -100, 1));
        is("nearest, beyond ahead of none", empty, Due.BEYOND, x -> x.nearest(101, 0, 0));
        is("nearest, beyond ahead of none", empty, Due.BEYOND, x -> x.nearest(0, 0, 2));
        is("magnetIs", empty, Due.BEYOND, x -> x.magnetIs(0, 0));
        is("as", empty, Due.BEYOND, x -> x.as(0, 0));
        is("shift", empty, Due.BEYOND, x -> x.shift(0, 0, 0, 0));
        is("holds", empty, Due.BEYOND, x -> x.holds(0, 0));
        is("voice", empty, Due.BEYOND, x -> x.voice(0, 0, 0));
        is("restore", empty, Due.NONE, x -> x.restore());
        World noMagnets = () -> {
            ThreeMagnets x = Worlds.rich();
            x.takeOff();
            x.takeOff();
            x.takeOff();
            return x;
        };
        is("fair, no magnets", noMagnets, Due.NONE, x -> x.fair(0));
        is("fair, no magnets", noMagnets, Due.NONE, x -> x.fair(1));
        is("fair, beyond ahead of none", noMagnets, Due.BEYOND, x -> x.fair(2));
        is("takeOff, none left", noMagnets, Due.NONE, x -> x.takeOff());
    }

    private static void imageCalls() {
        is("restore, none", Worlds::bare, Due.NONE, x -> x.restore());
        is("tell, full", Worlds::full, Due.FULL, x -> x.tell(0));
    }

    /** Refused too, but none wait then. */
    private static void checkCalls() {
        for (int j : new int[] {-1, 3, 4, 5, 6, LEAST, MOST}) {
            is("check " + j, Worlds::rich, Due.BEYOND, x -> x.check(j), x -> x.check(0));
            is("check " + j + ", full", Worlds::full, Due.BEYOND, x -> x.check(j), x -> x.check(0));
            ThreeMagnets x = Worlds.bare();
            due.is("check " + j + ", none first", x.check(j), Due.NONE);
            due.is("check " + j + ", told", x.told(2), 1);
            due.is("check " + j + ", told", x.told(1), 0);
            due.is("check " + j + ", none wait then", x.count(3), 0);
        }
    }
}
