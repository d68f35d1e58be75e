/** Promises 32 to 43: voices, sheets, images, what is told. */
public final class OtherTest {
    private static final Due due = new Due();

    public static void main(String[] args) {
        promise32Voice();
        promise32Wraps();
        promise32Parted();
        promise33Body();
        promise34Sheet();
        promise35Put();
        promise36Move();
        promise36Errors();
        promise37Magnets();
        promise38Image();
        promise39Restore();
        promise39WhatStays();
        promise40Tell();
        promise41Check();
        promise41Errors();
        promise42Count();
        promise43Told();
        due.end("OtherTest");
    }

    private static ThreeMagnets seven(int number, int kind, int strength) {
        ThreeMagnets x = new ThreeMagnets();
        for (int m = 0; m < number; m++) {
            x.magnet(0, 0, 0, 0);
        }
        x.magnet(kind, 0, 0, strength);
        return x;
    }

    /** Each kind as magnet 2 of strength 40, with the number 7: pulls, rests, parts, tells. */
    private static void promise32Voice() {
        int[][] want = {
            {47, 94, 92, 0},
            {46, 92, (92 - 2 + 2 - 2) ^ 40, 0},
            {47, -94, -96, 0 + 41},
            {47, 94, 96, 0},
            {3 + 40 - 1, 84, 82 ^ 40, 0 - ((39 * 2 - 2) ^ 40)},
            {47, 96, (98 + 2 - 2) * 3, 0},
            {5, -20, -22, 5},
        };
        want[1][2] = 90 ^ 40;
        for (int kind = 0; kind < 7; kind++) {
            ThreeMagnets x = seven(2, kind, 40);
            for (int voice = 0; voice < 4; voice++) {
                due.is("32 kind " + kind + " voice " + voice, x.voice(2, voice, 7), want[kind][voice]);
            }
            due.is("32 no magnet", x.voice(3, 0, 0), Due.BEYOND);
            due.is("32 no magnet", x.voice(-1, 0, 0), Due.BEYOND);
            due.is("32 no voice", x.voice(0, 4, 0), Due.BEYOND);
            due.is("32 no voice", x.voice(0, -1, 0), Due.BEYOND);
        }
        due.is("32 cut", seven(2, 0, 40).voice(2, 3, -75), -1);
        due.is("32 half cut", seven(0, 4, 40).voice(0, 0, -7), 36);
    }

    private static void promise32Wraps() {
        ThreeMagnets x = seven(1, 0, 0);
        due.is("32 wraps", x.voice(1, 3, Integer.MIN_VALUE), Integer.MIN_VALUE);
        x = seven(0, 0, 99);
        due.is("32 wraps", x.voice(0, 0, Integer.MAX_VALUE), Integer.MIN_VALUE + 98);
        due.is("32 wraps", x.voice(0, 1, Integer.MAX_VALUE), 196);
        due.is("32 an error's number is none", x.voice(0, 0, -1000006 - 99), -1000006);
        due.is("32 it is not told", x.told(6), 0);
    }

    private static void promise32Parted() {
        for (int kind = 0; kind < 7; kind++) {
            ThreeMagnets x = seven(3, kind, 3);
            due.is("32 ahead", x.voice(3, 0, 1), kind == 6 ? 5 : kind == 1 ? 3 : kind == 4 ? 2 : 4);
            int bodies = x.count(4);
            int first = x.body(0);
            due.is("32 parted", x.voice(3, 3, 1), Due.PARTED);
            due.is("32 told", x.told(6), 1);
            due.is("33 the trace stays", x.count(4), bodies);
            due.is("33 the trace stays", x.body(0), first);
        }
    }

    private static void trace(int kind, int voice, int... bodies) {
        ThreeMagnets x = seven(2, kind, 40);
        x.voice(2, voice, 7);
        due.is("33 bodies of " + kind + " " + voice, x.count(4), bodies.length);
        for (int k = 0; k < bodies.length; k++) {
            due.is("33 body " + k + " of " + kind + " " + voice, x.body(k), bodies[k]);
        }
        due.is("33 none", x.body(bodies.length), Due.NONE);
        due.is("33 none", x.body(-1), Due.NONE);
        x.voice(9, 0, 0);
        due.is("33 an error leaves it", x.count(4), bodies.length);
    }

    private static void promise33Body() {
        trace(0, 0, 10);
        trace(0, 1, 11, 10);
        trace(0, 2, 12, 11, 10);
        trace(0, 3, 13);
        trace(1, 0, 20, 10);
        trace(1, 2, 21, 12, 11, 20, 10);
        trace(2, 2, 12, 30, 11, 10);
        trace(2, 3, 31, 13, 10);
        trace(3, 2, 40, 12, 11, 10);
        trace(4, 2, 21, 12, 11, 50, 20, 10);
        trace(4, 3, 51, 13, 21, 12, 11, 50, 20, 10);
        trace(5, 2, 60, 40, 12, 61, 11, 10);
        trace(5, 3, 13);
        trace(6, 0, 71);
        trace(6, 2, 12, 70, 30, 11, 71);
        trace(6, 3, 31, 13, 71);
    }

    private static void promise34Sheet() {
        ThreeMagnets x = new ThreeMagnets();
        due.is("34 sheet", x.sheet(4, 8, 1), Due.BEYOND);
        due.is("34 sheet", x.sheet(-1, 8, 1), Due.BEYOND);
        due.is("34 bits", x.sheet(0, 7, 1), Due.BEYOND);
        due.is("34 bits", x.sheet(0, -8, 1), Due.BEYOND);
        due.is("34 bits", x.sheet(0, 64, 1), Due.BEYOND);
        due.is("34 beyond of bits ahead of state", x.sheet(0, 7, -1), Due.BEYOND);
        due.is("34 below 0", x.sheet(0, 8, -1), Due.STATE);
        due.is("34 below 0", x.sheet(0, 32, Integer.MIN_VALUE), Due.STATE);
        due.is("34 n", x.sheet(0, 8, 25), Due.BEYOND);
        due.is("34 missing", x.put(0, 0, 1), Due.NONE);
        due.is("34 none of them", x.sheet(0, 8, 0), 1);
        due.is("34 none of them", x.put(0, 0, 1), Due.BEYOND);
        due.is("34 none of them", x.magnets(0), 0);
        due.is("34 most", x.sheet(3, 16, 24), 1);
        due.is("34 most", x.put(3, 23, 1), 1);
        due.is("34 missing", x.sheet(3, 0, -5), 1);
        due.is("34 missing", x.put(3, 0, 1), Due.NONE);
        due.is("34 missing", x.sheet(3, 0, 99), 1);
        x.sheet(1, 32, 4);
        x.put(1, 0, 2);
        x.put(1, 3, 50);
        due.is("34 anew", x.sheet(1, 32, 4), 1);
        due.is("34 all 0", x.magnets(1), 1);
        due.is("34 all 0", x.magnetIs(0, 0), 0);
        due.is("34 all 0", x.magnetIs(0, 3), 0);
    }

    private static void promise35Put() {
        ThreeMagnets x = new ThreeMagnets();
        due.is("35 sheet", x.put(4, 0, 0), Due.BEYOND);
        due.is("35 sheet", x.put(-1, 0, 0), Due.BEYOND);
        due.is("35 missing", x.put(0, -1, 0), Due.NONE);
        x.sheet(0, 8, 4);
        due.is("35 number", x.put(0, 4, 0), Due.BEYOND);
        due.is("35 number", x.put(0, -1, 0), Due.BEYOND);
        putAndRead(8, 256 + 50, 50);
        putAndRead(8, 255, -1);
        putAndRead(8, -256 - 7, -7);
        putAndRead(16, 65536 + 50, 50);
        putAndRead(16, 65535 - 99, -100);
        putAndRead(16, Integer.MIN_VALUE + 9, 9);
        putAndRead(32, -100, -100);
    }

    /** A number as a place of a magnet tells it. */
    private static void putAndRead(int bits, int v, int want) {
        ThreeMagnets x = new ThreeMagnets();
        x.sheet(2, bits, 4);
        due.is("35 put", x.put(2, 1, v), 1);
        due.is("35 a magnet", x.magnets(2), 1);
        due.is("35 lowest bits " + bits + " of " + v, x.magnetIs(0, 1), want);
    }

    private static void row(ThreeMagnets x, int sheet, int... numbers) {
        for (int i = 0; i < numbers.length; i++) {
            x.put(sheet, i, numbers[i]);
        }
    }

    /** Eight numbers of a sheet, told by the two magnets that they are. */
    private static void isRow(String what, ThreeMagnets x, int sheet, int... numbers) {
        while (x.count(0) > 0) {
            x.takeOff();
        }
        due.is(what, x.magnets(sheet), 2);
        for (int i = 0; i < 8; i++) {
            due.is(what + " " + i, x.magnetIs(i / 4, i % 4), numbers[i]);
        }
    }

    private static void promise36Move() {
        ThreeMagnets x = new ThreeMagnets();
        x.sheet(0, 16, 8);
        row(x, 0, 0, 1, 2, 3, 4, 5, 6, 7);
        due.is("36 ahead, over itself", x.move(0, 0, 0, 1, 4), 4);
        isRow("36 ahead", x, 0, 0, 0, 1, 2, 3, 5, 6, 7);
        row(x, 0, 0, 1, 2, 3, 4, 5, 6, 7);
        due.is("36 back, over itself", x.move(0, 2, 0, 0, 5), 5);
        isRow("36 back", x, 0, 2, 3, 4, 5, 6, 5, 6, 7);
        x.sheet(1, 16, 8);
        due.is("36 to another", x.move(0, 0, 1, 0, 8), 8);
        isRow("36 to another", x, 1, 2, 3, 4, 5, 6, 5, 6, 7);
        due.is("36 none of them", x.move(0, 8, 1, 8, 0), 0);
        isRow("36 the first stays", x, 0, 2, 3, 4, 5, 6, 5, 6, 7);
    }

    private static void promise36Errors() {
        ThreeMagnets x = new ThreeMagnets();
        due.is("36 sheet", x.move(4, 0, 0, 0, 0), Due.BEYOND);
        due.is("36 sheet", x.move(0, 0, -1, 0, 0), Due.BEYOND);
        due.is("36 missing", x.move(0, 0, 1, 0, -1), Due.NONE);
        x.sheet(0, 16, 8);
        due.is("36 other missing", x.move(0, 0, 1, 0, -1), Due.NONE);
        due.is("36 first missing", x.move(1, 0, 0, 0, -1), Due.NONE);
        x.sheet(1, 8, 8);
        due.is("36 unlike", x.move(0, 0, 1, 0, -1), Due.KIND);
        x.sheet(1, 16, 4);
        int[][] wrong = {{-1, 0, 1}, {0, -1, 1}, {0, 0, -1}, {8, 0, 1}, {0, 4, 1}, {6, 0, 3}, {0, 2, 3}, {0, 0, 5}, {9, 0, 0},
            {0, 5, 0}, {Integer.MAX_VALUE, 0, 1}, {0, Integer.MAX_VALUE, 2}, {1, 1, Integer.MAX_VALUE}};
        for (int[] w : wrong) {
            due.is("36 " + w[0] + " " + w[1] + " " + w[2], x.move(0, w[0], 1, w[1], w[2]), Due.BEYOND);
        }
        due.is("36 just there", x.move(0, 4, 1, 0, 4), 4);
    }

    private static void promise37Magnets() {
        ThreeMagnets x = new ThreeMagnets();
        due.is("37 sheet", x.magnets(4), Due.BEYOND);
        due.is("37 sheet", x.magnets(-1), Due.BEYOND);
        due.is("37 missing", x.magnets(0), Due.NONE);
        x.sheet(0, 32, 11);
        row(x, 0, 6, -100, 100, 99, 1, 2, 3, 4, 5, 6, 7);
        due.is("37 the third isn't whole", x.magnets(0), 2);
        due.is("37 kind", x.magnetIs(0, 0), 6);
        due.is("37 x", x.magnetIs(0, 1), -100);
        due.is("37 strength", x.magnetIs(1, 3), 4);
        x.sheet(1, 8, 24);
        row(x, 1, 0, 1, 1, 1, 0, 2, 2, 2, 7, 3, 3, 3);
        due.is("37 up to the first refused", x.magnets(1), 2);
        due.is("37 more to those ahead", x.magnetIs(3, 3), 2);
        x.put(1, 8, 0);
        due.is("37 up to six", x.magnets(1), 2);
        due.is("37 full", x.magnets(1), 0);
        due.is("37 six", x.count(0), 6);
        due.is("37 no error", x.told(4), 0);
        due.is("37 no error", x.told(1), 2);
        x.takeOff();
        x.put(1, 0, -1);
        due.is("37 the first is refused", x.magnets(1), 0);
    }

    private static void promise38Image() {
        ThreeMagnets x = new ThreeMagnets();
        due.is("38 once", x.image(), 1);
        x.magnet(0, 0, 0, 0);
        due.is("38 twice", x.image(), 2);
        x.takeOff();
        due.is("38 in place of one ahead", x.restore(), 1);
        due.is("38 how often is not kept", x.image(), 3);
    }

    private static void promise39Restore() {
        ThreeMagnets x = Worlds.dots(1, 1, 3, 3);
        due.is("39 none", x.restore(), Due.NONE);
        x.let(4, 5);
        x.push(6, 7);
        x.tick(2);
        x.picture(1, 1, 32, 2);
        x.throwsOf(1, 1, 0, 5);
        Due.text(x, 0, "7");
        Due.text(x, 1, "8");
        Due.text(x, 2, "9");
        x.feed(Due.word("abc"), 3);
        x.seed(77);
        x.tell(0);
        x.tell(9);
        x.image();
        for (int again = 0; again < 2; again++) {
            due.is("39 restore", again == 0 ? 2 : x.restore(), 2);
            isAsKept(x);
            spoil(x);
        }
    }

    private static void isAsKept(ThreeMagnets x) {
        int[] counts = {2, 6, 3, 2};
        for (int k = 0; k < 4; k++) {
            due.is("39 count " + k, x.count(k), counts[k]);
        }
        due.is("39 z", x.count(5), 77);
        due.is("39 magnet", x.magnetIs(0, 0), 0);
        due.is("39 magnet", x.magnetIs(1, 1), 3);
        due.is("39 pull by the text", x.magnetIs(0, 5), 7);
        int[] bob = {76, 94, 6, 7, 2};
        for (int k = 0; k < 5; k++) {
            due.is("39 bob " + k, x.bob(k), bob[k]);
        }
        due.is("39 cell", x.cell(0, 0), 0);
        due.is("39 cell", x.cell(1, 1), 1);
        due.is("39 lengths", x.seen(3), 240);
        due.is("39 want", x.want(1), 9);
        due.is("39 thrown", x.thrownAt(0), 5);
        due.is("39 check", x.check(0), 3);
        due.is("39 text", x.text(0), -10);
        due.is("39 rub", x.rule(1, 50), 0);
    }

    private static void spoil(ThreeMagnets x) {
        x.takeOff();
        x.shift(0, 5, 9, 9);
        x.magnet(6, 6, 6, 6);
        x.let(0, 0);
        x.tick(1);
        x.untell(0);
        Due.text(x, 1, "1");
        Due.text(x, 2, "2");
        x.feed(0, 1);
        x.picture(50, 50, 11, 1);
        x.throwsOf(50, 50, 0, 9);
        x.tell(4);
    }

    private static void promise39WhatStays() {
        ThreeMagnets x = new ThreeMagnets();
        x.magnet(0, 0, 0, 9);
        x.sheet(0, 8, 4);
        x.image();
        x.voice(0, 1, 1);
        x.put(0, 3, 66);
        x.rule(9, 9);
        x.picture(0, 0, 11, 1);
        x.throwsOf(0, 0, 0, 1);
        x.restore();
        due.is("39 no picture", x.cell(0, 0), Due.NONE);
        due.is("39 no picture", x.count(1), 0);
        due.is("39 no throws", x.thrownAt(0), Due.NONE);
        due.is("39 the trace stays", x.count(4), 2);
        due.is("39 the trace stays", x.body(1), 10);
        due.is("39 sheets stay", x.magnets(0), 1);
        due.is("39 sheets stay", x.magnetIs(1, 3), 66);
        due.is("39 told stays", x.told(1), 1);
    }

    private static void promise40Tell() {
        ThreeMagnets x = new ThreeMagnets();
        for (int k = 1; k <= 24; k++) {
            due.is("40 tell", x.tell(k * 1000003), k);
        }
        due.is("40 full", x.tell(0), Due.FULL);
        due.is("40 they wait", x.count(3), 24);
    }

    private static int checked(ThreeMagnets x, int j, int... told) {
        for (int v : told) {
            x.tell(v);
        }
        int answer = x.check(j);
        due.is("41 none wait then", x.count(3), 0);
        return answer;
    }

    private static void promise41Check() {
        ThreeMagnets x = Worlds.dots(1, 0, 0, 1);
        x.picture(0, 0, 32, 1);
        due.is("41 row", checked(x, 0, 9, 0, 9), 0);
        due.is("41 row", checked(x, 1, 1, 9, 9), 0);
        due.is("41 first", checked(x, 1, 9, 9, 9), 1);
        due.is("41 second", checked(x, 0, 9, 1, 1), 2);
        due.is("41 third", checked(x, 0, 9, 0, -1), 3);
        due.is("41 one lacks", checked(x, 0, 9, 0), 3);
        due.is("41 all lack", checked(x, 0), 1);
        due.is("41 one too many", checked(x, 0, 9, 0, 9, 9), 4);
        due.is("41 many too many", checked(x, 0, 9, 0, 9, 9, 9, 9, 9, 9), 4);
        due.is("41 wrong ahead of too many", checked(x, 0, 9, 9, 9, 9), 2);
    }

    private static void promise41Errors() {
        ThreeMagnets x = Worlds.dots(0, 0);
        due.is("41 no picture", checked(x, 0, 1, 2), Due.NONE);
        due.is("41 none first", checked(x, -1, 1), Due.NONE);
        x.picture(0, 0, 32, 1);
        due.is("41 no row", checked(x, 2, 0, 9, 9), Due.BEYOND);
        due.is("41 no row", checked(x, -1, 0, 9, 9), Due.BEYOND);
        due.is("41 told", x.told(1), 2);
        due.is("41 told", x.told(2), 2);
    }

    private static void promise42Count() {
        ThreeMagnets x = Worlds.dots(0, 0, 1, 1);
        x.picture(0, 0, 65, 1);
        x.feed(0, 7);
        x.tell(1);
        x.tell(1);
        x.tell(1);
        x.voice(0, 2, 1);
        x.seed(Integer.MIN_VALUE);
        int[] want = {2, 30, 7, 3, 3, Integer.MIN_VALUE};
        for (int k = 0; k < 6; k++) {
            due.is("42 count " + k, x.count(k), want[k]);
        }
        due.is("42 beyond", x.count(6), Due.BEYOND);
        due.is("42 beyond", x.count(-1), Due.BEYOND);
        due.is("42 told", x.told(1), 2);
    }

    private static void promise43Told() {
        ThreeMagnets x = new ThreeMagnets();
        x.as(0, 0);
        x.takeOff();
        x.takeOff();
        x.sheet(0, 8, -1);
        x.sheet(0, 8, -1);
        x.sheet(0, 8, -1);
        for (int k = 0; k < 6; k++) {
            x.magnet(0, 0, 0, k);
        }
        for (int k = 0; k < 4; k++) {
            x.magnet(0, 0, 0, 0);
            x.as(0, 1);
            x.voice(k, 3, 5);
        }
        x.as(1, 2);
        int[] want = {1, 2, 3, 4, 5, 4};
        for (int k = 1; k <= 6; k++) {
            due.is("43 told " + k, x.told(k), want[k - 1]);
        }
        due.is("43 another", x.told(0), Due.BEYOND);
        due.is("43 another", x.told(7), Due.BEYOND);
        due.is("43 another", x.told(Integer.MIN_VALUE), Due.BEYOND);
        due.is("43 counted, too", x.told(1), 4);
    }
}
