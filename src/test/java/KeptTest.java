/** Sections 4 and 5 of the document's Terms and what an image keeps, at their edges. */
public final class KeptTest {
    private static final int LEAST = Integer.MIN_VALUE;
    private static final int MOST = Integer.MAX_VALUE;
    private static final Due due = new Due();

    private interface Change {
        void on(ThreeMagnets x);
    }

    public static void main(String[] args) {
        pullsWrap();
        restsWrap();
        partsWrap();
        tellsWrap();
        partedByNumber();
        tracesOneBehindAnother();
        sheetSizes();
        sheetBits();
        sheetAnew();
        movesOfEachWidth();
        movesOverThemselves();
        movesBetweenUnlikeSizes();
        movesOfNone();
        magnetsOfSheets();
        magnetsUpToSix();
        keptInImages();
        imageStays();
        imagesCounted();
        notKept();
        waitingNumbers();
        errorsCounted();
        due.end("KeptTest");
    }

    /** A magnet of that number, KIND and STRENGTH. */
    private static ThreeMagnets speaker(int number, int kind, int strength) {
        ThreeMagnets x = new ThreeMagnets();
        for (int m = 0; m < number; m++) {
            x.magnet(0, 0, 0, 0);
        }
        x.magnet(kind, 0, 0, strength);
        return x;
    }

    private static void says(int number, int kind, int strength, int voice, int of, int want) {
        String what = "voice " + voice + " of " + of + " by kind " + kind + ", number " + number + ", strength " + strength;
        due.is(what, speaker(number, kind, strength).voice(number, voice, of), want);
    }

    private static void pullsWrap() {
        says(0, 0, 99, 0, MOST, LEAST + 98);
        says(0, 0, 0, 0, LEAST, LEAST);
        says(5, 0, 99, 0, -99, 0);
        says(0, 1, 0, 0, LEAST, MOST);
        says(0, 1, 99, 0, MOST, LEAST + 97);
        says(0, 2, 1, 0, MOST, LEAST);
        says(0, 3, 1, 0, MOST, LEAST);
        says(0, 4, 0, 0, LEAST, (1 << 30) * -1 - 1);
        says(0, 4, 0, 0, -1, -1);
        says(0, 4, 0, 0, -3, -2);
        says(0, 4, 99, 0, MOST, (1 << 30) - 1 + 98);
        says(0, 5, 1, 0, MOST, LEAST);
        says(0, 6, 99, 0, MOST, 5);
    }

    private static void restsWrap() {
        says(0, 0, 0, 1, 1 << 30, LEAST);
        says(0, 0, 99, 1, MOST, 196);
        says(5, 1, 0, 1, LEAST, -2);
        says(0, 2, 0, 1, 1 << 30, LEAST);
        says(0, 2, 0, 1, LEAST, 0);
        says(0, 4, 0, 1, LEAST, LEAST - 2);
        says(5, 5, 0, 1, 1 << 30, LEAST + 5);
        says(5, 6, 99, 1, MOST, -20);
    }

    private static void partsWrap() {
        says(1, 0, 0, 2, 1 << 30, MOST);
        says(5, 0, 0, 2, LEAST, -5);
        says(1, 1, 99, 2, (1 << 30) + 1 - 99, MOST ^ 99);
        says(1, 2, 0, 2, 1 << 30, MOST);
        says(1, 3, 0, 2, MOST, 1);
        says(1, 3, 0, 2, (1 << 30) - 2, MOST);
        says(0, 4, 1, 2, 1 << 31, (LEAST ^ 1));
        says(3, 5, 0, 2, (1 << 30) - 2, LEAST);
        says(3, 5, 0, 2, MOST, 6);
        says(5, 6, 50, 2, LEAST, -25);
    }

    private static void tellsWrap() {
        says(1, 0, 0, 3, LEAST, LEAST);
        says(5, 0, 2, 3, 10, -3);
        says(5, 0, 2, 3, -10, 3);
        says(0, 0, 3, 3, -10, -3);
        says(0, 0, 99, 3, 98, 0);
        says(0, 0, 99, 3, -99, -1);
        says(0, 2, 1, 3, MOST, LEAST + 1);
        says(1, 2, 0, 3, LEAST, LEAST + 1);
        says(2, 4, 1, 3, 7, -7 - ((0 + 1 - 1) * 2 - 2 ^ 1));
        says(0, 4, 1, 3, LEAST, LEAST - 1);
        says(1, 6, 2, 3, MOST, LEAST + 4);
    }

    private static void partedByNumber() {
        for (int number = 0; number < 6; number++) {
            for (int kind = 0; kind < 7; kind++) {
                says(number, kind, number, 3, 7, Due.PARTED);
                ThreeMagnets x = speaker(number, kind, number + 1);
                due.isTrue("not parted", x.voice(number, 3, 7) != Due.PARTED);
                due.is("not told", x.told(6), 0);
                ThreeMagnets y = speaker(number, kind, number);
                due.is("parted", y.voice(number, 3, MOST), Due.PARTED);
                due.is("no trace of it", y.count(4), 0);
                due.is("no trace of it", y.body(0), Due.NONE);
                due.is("other voices are not", y.voice(number, 0, 8) == Due.PARTED ? 1 : 0, 0);
                due.is("told once", y.told(6), 1);
            }
        }
    }

    /** A shorter trace leaves nothing of a longer one. */
    private static void tracesOneBehindAnother() {
        ThreeMagnets x = speaker(2, 4, 40);
        x.voice(2, 3, 7);
        due.is("the longest", x.count(4), 8);
        due.is("its last", x.body(7), 10);
        due.is("behind its last", x.body(8), Due.NONE);
        x.voice(0, 0, 7);
        due.is("the latest", x.count(4), 1);
        due.is("the latest", x.body(0), 10);
        due.is("behind its last", x.body(1), Due.NONE);
        x.voice(2, 4, 7);
        due.is("not that of a refused one", x.count(4), 1);
        x.shift(2, 6, 0, 0);
        x.voice(2, 0, 7);
        due.is("the latest", x.body(0), 71);
        x.takeOff();
        due.is("it stays", x.body(0), 71);
    }

    private static void sheetSizes() {
        for (int sheet = 0; sheet < 4; sheet++) {
            for (int bits = 8; bits <= 32; bits *= 2) {
                ThreeMagnets x = new ThreeMagnets();
                String what = "sheet " + sheet + " of " + bits + " bits";
                due.is(what + ", missing at first", x.magnets(sheet), Due.NONE);
                due.is(what + ", none", x.sheet(sheet, bits, 0), 1);
                due.is(what + ", none", x.put(sheet, 0, 1), Due.BEYOND);
                due.is(what + ", none", x.magnets(sheet), 0);
                for (int n = 1; n <= 24; n++) {
                    due.is(what + ", so many", x.sheet(sheet, bits, n), 1);
                    due.is(what + ", the last", x.put(sheet, n - 1, 1), 1);
                    due.is(what + ", beyond", x.put(sheet, n, 1), Due.BEYOND);
                }
                due.is(what + ", too many", x.sheet(sheet, bits, 25), Due.BEYOND);
                due.is(what + ", the one ahead stays", x.put(sheet, 23, 1), 1);
                due.is(what + ", below 0", x.sheet(sheet, bits, -1), Due.STATE);
                due.is(what + ", the one ahead stays", x.put(sheet, 23, 1), 1);
                for (int other = 0; other < 4; other++) {
                    due.is(what + ", others are missing", x.put(other, 0, 1), other == sheet ? 1 : Due.NONE);
                }
                for (int n : new int[] {LEAST, -1, 0, 24, 25, MOST}) {
                    due.is(what + ", missing", x.sheet(sheet, 0, n), 1);
                    due.is(what + ", missing", x.put(sheet, 0, 1), Due.NONE);
                }
            }
        }
    }

    /** A number as x of a magnet; one that is no PLACE is refused. */
    private static void put(int bits, int v, int want) {
        ThreeMagnets x = new ThreeMagnets();
        x.sheet(0, bits, 4);
        due.is("put " + v, x.put(0, 1, v), 1);
        boolean place = want >= -100 && want <= 100;
        due.is("a place of " + v + " by " + bits, x.magnets(0), place ? 1 : 0);
        due.is("the number of " + v + " by " + bits, x.magnetIs(0, 1), place ? want : Due.BEYOND);
    }

    private static void sheetBits() {
        for (int bits = 8; bits <= 32; bits *= 2) {
            for (int v = -101; v <= 101; v += v == -101 || v == 100 ? 1 : 50) {
                put(bits, v, v);
                if (bits < 32) {
                    put(bits, v + (1 << bits), v);
                    put(bits, v - (1 << bits), v);
                    put(bits, v + LEAST, v);
                }
            }
            put(bits, bits == 32 ? LEAST : 1 << bits - 1, LEAST);
            put(bits, bits == 32 ? MOST : (1 << bits - 1) - 1, MOST);
        }
        put(8, -1, -1);
        put(8, 127, 127);
        put(8, 128, -128);
        put(8, 155, -101);
        put(8, 156, -100);
        put(16, 256 + 5, 261);
        put(16, 65535, -1);
        put(16, 65436, -100);
        put(32, 65536 + 5, 65541);
        put(32, 256, 256);
    }

    private static void sheetAnew() {
        ThreeMagnets x = new ThreeMagnets();
        x.sheet(0, 8, 4);
        x.sheet(1, 8, 4);
        for (int i = 0; i < 4; i++) {
            x.put(0, i, 3);
            x.put(1, i, 5);
        }
        x.sheet(0, 16, 8);
        due.is("all 0, more of them", x.magnets(0), 2);
        due.is("all 0", x.magnetIs(0, 0) + x.magnetIs(0, 1) + x.magnetIs(0, 2) + x.magnetIs(0, 3), 0);
        due.is("the other stays", x.magnets(1), 1);
        due.is("the other stays", x.magnetIs(2, 3), 5);
        x.sheet(1, 0, 9);
        x.sheet(1, 8, 4);
        due.is("all 0 after it was missing", x.magnets(1), 1);
        due.is("all 0 after it was missing", x.magnetIs(3, 0), 0);
    }

    private static void movesOfEachWidth() {
        for (int bits = 8; bits <= 32; bits *= 2) {
            ThreeMagnets x = new ThreeMagnets();
            x.sheet(2, bits, 24);
            x.sheet(3, bits, 24);
            for (int i = 0; i < 24; i++) {
                x.put(2, i, i % 4 == 0 ? i / 4 : i - 12);
            }
            for (int i = 0; i < 24; i++) {
                if (i % 4 == 3) {
                    x.put(2, i, i);
                }
            }
            due.is("all of them", x.move(2, 0, 3, 0, 24), 24);
            due.is("one more", x.move(2, 0, 3, 0, 25), Due.BEYOND);
            due.is("one on", x.move(2, 1, 3, 0, 24), Due.BEYOND);
            due.is("one on", x.move(2, 0, 3, 1, 24), Due.BEYOND);
            due.is("six", x.magnets(3), 6);
            for (int m = 0; m < 6; m++) {
                due.is("kind", x.magnetIs(m, 0), m);
                due.is("x", x.magnetIs(m, 1), 4 * m - 11);
                due.is("y", x.magnetIs(m, 2), 4 * m - 10);
                due.is("strength", x.magnetIs(m, 3), 4 * m + 3);
            }
            due.is("the last one", x.move(2, 23, 3, 23, 1), 1);
            due.is("to the same place", x.move(2, 5, 2, 5, 19), 19);
        }
    }

    /** The numbers i, i + 1, .. of a sheet over which n of them are moved, told by magnets. */
    private static void over(int bits, int from, int to, int n) {
        ThreeMagnets x = new ThreeMagnets();
        x.sheet(0, bits, 24);
        int[] want = new int[24];
        for (int i = 0; i < 24; i++) {
            x.put(0, i, i % 7);
            want[i] = i % 7;
        }
        due.is("moved", x.move(0, from, 0, to, n), n);
        System.arraycopy(want.clone(), from, want, to, n);
        due.is("six", x.magnets(0), 6);
        for (int i = 0; i < 24; i++) {
            due.is(n + " from " + from + " to " + to + ", number " + i, x.magnetIs(i / 4, i % 4), want[i]);
        }
    }

    private static void movesOverThemselves() {
        for (int bits = 8; bits <= 32; bits *= 2) {
            over(bits, 0, 1, 23);
            over(bits, 1, 0, 23);
            over(bits, 3, 8, 10);
            over(bits, 8, 3, 10);
            over(bits, 0, 0, 24);
            over(bits, 23, 0, 1);
        }
    }

    /** Four numbers from each place of a long sheet to each place of a short one, and back. */
    private static void movesBetweenUnlikeSizes() {
        for (int bits = 8; bits <= 32; bits *= 2) {
            for (int i = 0; i <= 20; i++) {
                for (int j = 0; j <= 2; j++) {
                    longAndShort(bits, i, j);
                }
            }
        }
    }

    private static void longAndShort(int bits, int i, int j) {
        ThreeMagnets x = new ThreeMagnets();
        x.sheet(0, bits, 24);
        x.sheet(3, bits, 6);
        x.sheet(1, bits, 4);
        for (int k = 0; k < 24; k++) {
            x.put(0, k, (k + 3) % 7);
        }
        String what = bits + " bits, from " + i + " by " + j;
        due.is(what, x.move(0, i, 3, j, 4), 4);
        due.is(what + ", beyond the short one", x.move(0, i, 3, 3, 4), Due.BEYOND);
        due.is(what + ", beyond the long one", x.move(0, 21, 3, j, 4), Due.BEYOND);
        x.sheet(0, bits, 24);
        due.is(what + ", back", x.move(3, j, 0, i, 4), 4);
        due.is(what + ", and on", x.move(0, i, 1, 0, 4), 4);
        due.is(what + ", a magnet", x.magnets(1), 1);
        for (int k = 0; k < 4; k++) {
            due.is(what + ", number " + k, x.magnetIs(0, k), (i + k + 3) % 7);
        }
    }

    private static void movesOfNone() {
        ThreeMagnets x = new ThreeMagnets();
        x.sheet(0, 8, 4);
        x.sheet(1, 8, 0);
        due.is("none", x.move(0, 0, 1, 0, 0), 0);
        due.is("none, behind the last", x.move(0, 4, 1, 0, 0), 0);
        due.is("none of none", x.move(1, 0, 1, 0, 0), 0);
        due.is("one of none", x.move(1, 0, 0, 0, 1), Due.BEYOND);
        due.is("one to none", x.move(0, 0, 1, 0, 1), Due.BEYOND);
    }

    private static void four(ThreeMagnets x, int at, int kind, int magnetX, int y, int strength) {
        x.put(0, at, kind);
        x.put(0, at + 1, magnetX);
        x.put(0, at + 2, y);
        x.put(0, at + 3, strength);
    }

    /** The second of three is one that magnet() would take or refuse. */
    private static void magnetsOfSheets() {
        int[][] fours = {{0, 0, 0, 0, 3}, {6, 100, -100, 99, 3}, {0, -100, 100, 0, 3}, {-1, 0, 0, 0, 1}, {7, 0, 0, 0, 1}, {0, 101, 0, 0, 1},
            {0, -101, 0, 0, 1}, {0, 0, 101, 0, 1}, {0, 0, -101, 0, 1}, {0, 0, 0, -1, 1}, {0, 0, 0, 100, 1}};
        for (int[] of : fours) {
            ThreeMagnets x = new ThreeMagnets();
            x.sheet(0, 32, 12);
            four(x, 0, 1, 2, 3, 4);
            four(x, 4, of[0], of[1], of[2], of[3]);
            four(x, 8, 2, 3, 4, 5);
            due.is("up to " + of[0] + " " + of[1] + " " + of[2] + " " + of[3], x.magnets(0), of[4]);
            due.is("so many stand", x.count(0), of[4]);
            due.is("the first is one", x.magnetIs(0, 3), 4);
            due.is("no error", x.told(1), 0);
        }
        for (int n = 0; n <= 24; n++) {
            ThreeMagnets x = new ThreeMagnets();
            x.sheet(0, 8, n);
            due.is("whole ones of " + n, x.magnets(0), n / 4);
        }
    }

    private static void magnetsUpToSix() {
        for (int ahead = 0; ahead <= 6; ahead++) {
            ThreeMagnets x = new ThreeMagnets();
            for (int m = 0; m < ahead; m++) {
                x.magnet(1, 1, 1, 1);
            }
            x.sheet(0, 16, 24);
            due.is("more to " + ahead, x.magnets(0), 6 - ahead);
            due.is("six", x.count(0), 6);
            due.is("those ahead stay", x.magnetIs(0, 0), ahead == 0 ? 0 : 1);
            due.is("no more", x.magnets(0), 0);
            due.is("no error", x.told(4) + x.told(1), 0);
            due.is("an error by itself", x.magnet(0, 0, 0, 0), Due.FULL);
        }
    }

    private static Change[] changes() {
        return new Change[] {
            x -> x.magnet(6, 60, -60, 60), x -> x.takeOff(), x -> x.shift(0, 1, -20, 3), x -> x.shift(0, 0, -21, 3), x -> x.shift(0, 0, -20, 4),
            x -> x.rule(0, 9), x -> x.rule(1, 9), x -> x.rule(2, 9), x -> x.rule(3, 9), x -> x.rule(4, 9), x -> x.rule(5, 2),
            x -> x.feed('7', 1), x -> x.text(2), x -> x.untell(0), x -> x.untell(1), x -> x.untell(2),
            x -> x.let(50, 60), x -> x.push(1, 2), x -> x.tick(3),
            x -> x.picture(-30, -20, 43, 14), x -> x.picture(-30, -20, 42, 15), x -> x.picture(-29, -20, 43, 15), x -> x.picture(0, 0, 66, 9),
            x -> x.throwsOf(0, 0, 9, 9), x -> x.seed(6), x -> x.tell(3), x -> x.check(0),
            x -> Due.text(x, 0, "9"), x -> Due.text(x, 1, "9"), x -> Due.text(x, 2, "9"), KeptTest::otherStrength,
        };
    }

    private static void otherStrength(ThreeMagnets x) {
        x.takeOff();
        x.magnet(4, 0, -15, 34);
    }

    /** What was changed since is as it was; what is kept does not change with it, however often it is restored. */
    private static void keptInImages() {
        Change[] changes = changes();
        for (int k = 0; k < changes.length; k++) {
            ThreeMagnets one = Worlds.rich();
            ThreeMagnets twin = Worlds.rich();
            due.is("image", one.image(), twin.image());
            changes[k].on(one);
            due.is("restore behind change " + k, one.restore(), 3);
            changes[k].on(one);
            due.is("restore once more behind change " + k, one.restore(), 3);
            Probe.same(due, "kept ahead of change " + k, one, twin);
        }
        ThreeMagnets one = Worlds.rich();
        ThreeMagnets twin = Worlds.rich();
        one.image();
        twin.image();
        for (Change change : changes) {
            change.on(one);
        }
        due.is("restore behind all", one.restore(), 3);
        due.is("restored", one.told(4), twin.told(4));
        Probe.same(due, "kept ahead of all", one, twin);
    }

    /** A change ahead of the image is kept, also where it came since the image ahead of it. */
    private static void imageStays() {
        Change[] changes = changes();
        for (int k = 0; k < changes.length; k++) {
            ThreeMagnets one = Worlds.rich();
            ThreeMagnets twin = Worlds.rich();
            one.image();
            twin.image();
            changes[k].on(one);
            changes[k].on(twin);
            due.is("image in place of one ahead", one.image(), twin.image());
            for (Change change : changes) {
                change.on(one);
            }
            due.is("restore of change " + k, one.restore(), twin.count(0));
            Probe.same(due, "kept with change " + k, one, twin);
        }
    }

    private static void imagesCounted() {
        ThreeMagnets x = new ThreeMagnets();
        due.is("none", x.restore(), Due.NONE);
        for (int k = 1; k <= 5; k++) {
            due.is("so often", x.image(), k);
            due.is("no magnets", x.restore(), 0);
            due.is("no magnets", x.restore(), 0);
        }
        x.magnet(0, 0, 0, 0);
        due.is("it stays", x.restore(), 0);
        due.is("none stands", x.count(0), 0);
    }

    private static void notKept() {
        ThreeMagnets x = new ThreeMagnets();
        x.magnet(1, 0, 0, 9);
        x.sheet(0, 8, 4);
        x.voice(0, 0, 1);
        x.image();
        x.put(0, 1, 44);
        x.sheet(1, 8, 4);
        x.voice(0, 2, 1);
        x.tick(0);
        due.is("restore", x.restore(), 1);
        due.is("the trace is the latest", x.count(4), 5);
        due.is("the trace is the latest", x.body(0), 21);
        due.is("told goes on", x.told(1), 1);
        due.is("a sheet is as it is now", x.magnets(0), 1);
        due.is("a sheet is as it is now", x.magnetIs(1, 1), 44);
        due.is("a sheet is there now", x.magnets(1), 1);
        x.sheet(0, 0, 0);
        x.restore();
        due.is("a sheet is missing now", x.magnets(0), Due.NONE);
        due.is("how often goes on", x.image(), 2);
    }

    private static void waitingNumbers() {
        ThreeMagnets x = Worlds.dots(0, 0);
        x.picture(0, 0, 61, 1);
        for (int k = 1; k <= 24; k++) {
            due.is("tell", x.tell(k == 1 ? 0 : 9), k);
        }
        x.image();
        due.is("full", x.tell(9), Due.FULL);
        due.is("too many", x.check(0), 7);
        due.is("one comes", x.tell(LEAST), 1);
        x.restore();
        due.is("24 wait again", x.count(3), 24);
        due.is("full again", x.tell(MOST), Due.FULL);
        due.is("as they were", x.check(0), 7);
        due.is("told twice", x.told(4), 2);
    }

    private static void errorsCounted() {
        ThreeMagnets x = new ThreeMagnets();
        for (int k = 1; k <= 6; k++) {
            due.is("none yet", x.told(k), 0);
        }
        for (int k = 1; k <= 30; k++) {
            due.is("beyond", x.told(0), Due.BEYOND);
            due.is("beyond, counted", x.told(1), 2 * k - 1);
            due.is("beyond", x.told(7), Due.BEYOND);
            due.is("none", x.takeOff(), Due.NONE);
            due.is("none, counted", x.told(2), k);
        }
        due.is("beyond in all", x.told(1), 60);
        due.is("no other", x.told(3) + x.told(4) + x.told(5) + x.told(6), 0);
        x.seed(Due.FULL);
        due.is("a number of that size", x.seed(1), Due.FULL);
        due.is("is no error", x.told(4), 0);
        x.magnet(0, 0, 0, 5);
        due.is("a number of that size", x.voice(0, 0, Due.STATE - 5), Due.STATE);
        due.is("is no error", x.told(3), 0);
    }
}
