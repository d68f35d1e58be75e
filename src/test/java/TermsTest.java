/** Sections 1 and 2 of the document's Terms, sentence by sentence, at their edges. */
public final class TermsTest {
    private static final int LEAST = Integer.MIN_VALUE;
    private static final int MOST = Integer.MAX_VALUE;
    private static final Due due = new Due();

    public static void main(String[] args) {
        severalAtOnePlace();
        farIsCut();
        pullsAreCutOneByOne();
        pullsByFineAndFar();
        gravityIsCut();
        rubIsCut();
        rubAtItsEnds();
        wayIsHeld();
        wayByFineIsCut();
        pullWithoutText();
        pullOfKindsBelow0();
        pullIsHeld();
        faintAndShy();
        quietAndNear();
        restKinds();
        endsInTime();
        firstRestCounts();
        firstBytes();
        bytesBehindAName();
        bytesBehindANumber();
        bytesBehindAnOpenedT();
        longestTexts();
        openAtOnce();
        textsOneBehindAnother();
        wrappedValues();
        cutValues();
        truth();
        order();
        rubbing();
        wantNames();
        due.end("TermsTest");
    }

    private static void isAt(String what, ThreeMagnets x, int... want) {
        for (int k = 0; k < want.length; k++) {
            due.is(what + ": bob " + k, x.bob(k), want[k]);
        }
    }

    private static void severalAtOnePlace() {
        ThreeMagnets x = new ThreeMagnets();
        for (int m = 0; m < 6; m++) {
            due.is("several at one place", x.magnet(0, 7, 7, m), m);
        }
        due.is("at most six", x.magnet(0, 7, 7, 6), Due.FULL);
        due.is("nearest of like ones", x.nearest(0, 0, 0), 0);
        due.is("ends at the least number", x.ends(7, 7, 0, 0), 0);
        due.is("six stay", x.count(0), 6);
    }

    private static void far(int offX, int offY, int want) {
        ThreeMagnets x = Worlds.still();
        x.magnet(0, 1, -2, 0);
        x.let(1, -2);
        x.push(offX, offY);
        x.tick(1);
        due.is("far of " + offX + " " + offY, x.magnetIs(0, 4), want);
    }

    private static void farIsCut() {
        int[][] offs = {{0, 0, 0}, {15, 0, 0}, {0, -15, 0}, {16, 0, 1}, {-16, 0, 1}, {15, 1, 1}, {-15, -1, 1}, {-15, 15, 1}, {8, 7, 0},
            {8, 8, 1}, {31, 0, 1}, {16, -16, 2}, {15, 16, 1}, {-32, 0, 2}};
        for (int[] off : offs) {
            far(off[0], off[1], off[2]);
        }
        ThreeMagnets x = new ThreeMagnets();
        x.magnet(0, -100, -100, 99);
        x.let(100, 100);
        due.is("greatest far", x.magnetIs(0, 4), 400);
        due.is("pull from there", x.magnetIs(0, 5), 891 / 403);
        due.is("greatest far of a place", x.nearest(100, 100, 1), 400);
        due.is("least far of a place", x.nearest(-100, -100, 1), 0);
    }

    /** Magnets of strength 1 at places, the pull by a text, and the speed of a bob at 0, 0 behind a tick. */
    private static void pulled(String text, int fine, int u, int v, int... places) {
        ThreeMagnets x = Worlds.still();
        for (int k = 0; k < places.length; k += 2) {
            x.magnet(0, places[k], places[k + 1], 1);
        }
        x.rule(5, fine);
        Due.text(x, 0, text);
        x.tick(1);
        isAt("pulled by " + text, x, u / fine, v / fine, u, v, 1);
    }

    private static void pullsAreCutOneByOne() {
        pulled("1", 1, 0, 0, 5, 0, 5, 0);
        pulled("1", 1, 0, 0, -5, 0, 0, -5);
        pulled("2", 1, 2, 0, 5, 0, 5, 0);
        pulled("2", 1, -1, 0, -5, 0);
        pulled("2", 1, 0, -1, 0, -5);
        pulled("2", 1, 0, 0, 5, 0, -5, 0);
        pulled("0-2", 1, -1, 1, 5, 0, 0, -5);
        pulled("r", 1, 18, 0, 10, 0, 10, 0);
        pulled("s*20+n", 1, 18, 18, 1, 1, 0, 9, 9, 0, -1, -1);
    }

    private static void pullsByFineAndFar() {
        pulled("9", 1, 14, 0, 5, 0, 5, 0);
        pulled("9", 2, 6, 0, 5, 0, 5, 0);
        pulled("9", 2, 0, -3, 0, -5);
        pulled("9", 1, 0, 0, 0, 0);
        ThreeMagnets x = Worlds.still();
        x.magnet(0, 0, 0, 0);
        x.push(8, 0);
        Due.text(x, 0, "10");
        x.tick(1);
        isAt("no way off, no pull", x, 8, 0, 8, 0, 1);
        x.push(0, 0);
        x.tick(1);
        isAt("far 0 and half a place off", x, 3, 0, -5, 0, 2);
        ThreeMagnets y = Worlds.still();
        y.magnet(0, 3, 0, 10);
        y.magnet(0, 3, 0, 40);
        y.tick(1);
        isAt("each by its own strength", y, 56, 0, 11 + 45, 0, 1);
        y.let(100, 100);
        y.shift(0, 2, -100, -100);
        y.shift(1, 6, -100, -100);
        Due.text(y, 0, "999");
        y.push(-3000, -3000);
        y.tick(1);
        int both = 3200 * 999 / (16 * 401) + 3200 * 1998 / (16 * 401);
        isAt("the greatest", y, 1600 - 3000 + both, 1600 - 3000 + both, both - 3000, both - 3000, 1);
    }

    private static void gravity(int gravity, int fine, int place, int want) {
        ThreeMagnets x = Worlds.still();
        x.rule(0, gravity);
        x.rule(5, fine);
        x.let(place, -place);
        x.tick(1);
        isAt("gravity " + gravity + " at " + place, x, 16 * place + want / fine, -16 * place - want / fine, want, -want, 1);
    }

    private static void gravityIsCut() {
        gravity(0, 1, 100, 0);
        gravity(1, 1, 99, 0);
        gravity(1, 1, -99, 0);
        gravity(1, 1, 100, -1);
        gravity(1, 1, -100, 1);
        gravity(5, 1, 19, 0);
        gravity(5, 1, 20, -1);
        gravity(99, 1, 100, -99);
        gravity(99, 1, -100, 99);
        gravity(99, 2, 100, -49);
        gravity(99, 2, -100, 49);
        gravity(3, 2, 34, 0);
        gravity(3, 2, 67, -1);
        ThreeMagnets x = Worlds.still();
        x.rule(0, 99);
        x.rule(1, 99);
        x.let(100, 0);
        x.tick(1);
        isAt("gravity is ahead of rub", x, 1599, 0, -1, 0, 1);
    }

    private static void rub(int rub, int fine, int speed, int want) {
        ThreeMagnets x = Worlds.still();
        x.rule(1, rub);
        x.rule(5, fine);
        x.push(speed, -speed);
        x.tick(1);
        isAt("rub " + rub + " of " + speed, x, want / fine, -(want / fine), want, -want, 1);
    }

    private static void rubIsCut() {
        rub(99, 1, 1, 1);
        rub(99, 1, -1, -1);
        rub(99, 1, 2, 1);
        rub(99, 1, 100, 1);
        rub(99, 1, -100, -1);
        rub(1, 1, 99, 99);
        rub(1, 1, 100, 99);
        rub(1, 1, -100, -99);
        rub(10, 1, 19, 18);
        rub(99, 2, 101, 101 - 49);
        rub(99, 2, -101, 49 - 101);
        rub(0, 1, 55, 55);
    }

    private static void rubAtItsEnds() {
        ThreeMagnets x = Worlds.still();
        x.rule(1, 99);
        x.push(9999, -9999);
        x.tick(1);
        isAt("the greatest", x, 100, -100, 100, -100, 1);
        x.rule(1, 10);
        x.push(9, -9);
        x.tick(200);
        isAt("what is too slow to be rubbed goes on", x, 1600, -1600, 0, 0, 201);
    }

    private static void held(int fromX, int fromY, int u, int v, int... want) {
        ThreeMagnets x = Worlds.still();
        x.let(fromX, fromY);
        x.push(u, v);
        x.tick(1);
        isAt("from " + fromX + " " + fromY + " by " + u + " " + v, x, want);
    }

    private static void wayIsHeld() {
        held(99, 0, 16, 0, 1600, 0, 16, 0);
        held(99, 0, 17, 3, 1600, 3, 0, 3);
        held(-99, 0, -16, 0, -1600, 0, -16, 0);
        held(-99, 0, -17, 3, -1600, 3, 0, 3);
        held(0, 99, 0, 16, 0, 1600, 0, 16);
        held(0, 99, 3, 17, 3, 1600, 3, 0);
        held(0, -99, 0, -16, 0, -1600, 0, -16);
        held(0, -99, 3, -17, 3, -1600, 3, 0);
        held(100, 100, 0, 0, 1600, 1600, 0, 0);
        held(100, -100, -1, 1, 1599, -1599, -1, 1);
        held(100, -100, 9999, -9999, 1600, -1600, 0, 0);
        held(-100, -100, 9999, 3200, 1600, 1600, 0, 3200);
    }

    private static void fineWay(int fromX, int u, int... want) {
        ThreeMagnets x = Worlds.still();
        x.rule(5, 2);
        x.let(fromX, -fromX);
        x.push(u, -u);
        x.tick(1);
        isAt("fine from " + fromX + " by " + u, x, want);
    }

    private static void wayByFineIsCut() {
        fineWay(0, 3, 1, -1, 3, -3, 1);
        fineWay(0, -3, -1, 1, -3, 3, 1);
        fineWay(99, 33, 1600, -1600, 33, -33, 1);
        fineWay(99, 34, 1600, -1600, 0, 0, 1);
        fineWay(-99, -33, -1600, 1600, -33, 33, 1);
        fineWay(-99, -34, -1600, 1600, 0, 0, 1);
        fineWay(100, 1, 1600, -1600, 1, -1, 1);
        fineWay(100, 2, 1600, -1600, 0, 0, 1);
    }

    /** The PULL of a magnet that far off, at TICKS 0. */
    private static int pull(String text, int kind, int strength, int far) {
        ThreeMagnets x = new ThreeMagnets();
        x.magnet(kind, -far, 0, strength);
        if (text != null) {
            Due.text(x, 0, text);
        }
        return x.magnetIs(0, 5);
    }

    private static void pulls(String text, int strength, int far, int... want) {
        for (int kind = 0; kind < 7; kind++) {
            due.is("pull by " + text + " of kind " + kind, pull(text, kind, strength, far), want[kind]);
        }
    }

    private static void pullWithoutText() {
        pulls(null, 99, 0, 297, 148, -297, 297, 148, 294, -594);
        pulls(null, 0, 0, 0, 0, 0, 0, 0, 0, 0);
        pulls(null, 1, 6, 1, 0, -1, 1, 0, 0, -2);
        pulls(null, 1, 7, 0, 0, 0, 0, 0, 0, 0);
        pulls(null, 99, 20, 38, 19, -38, 38, 19, 35, -76);
        pulls(null, 99, 21, 37, 18, -37, 37, 0, 34, -74);
        pulls(null, 99, 100, 8, 4, -8, 8, 0, 5, -16);
    }

    private static void pullOfKindsBelow0() {
        pulls("0-7", 9, 3, -7, -3, 7, -7, -3, 0, 14);
        pulls("0-1", 9, 3, -1, 0, 1, -1, 0, 0, 2);
        ThreeMagnets x = Worlds.still();
        for (int kind = 1; kind < 7; kind++) {
            x.magnet(kind, 0, 0, 9);
        }
        Due.text(x, 0, "0-7");
        x.tick(1);
        int[] odd = {-3, 7, 0, -3, 0, 14};
        for (int m = 0; m < 6; m++) {
            due.is("pull at an odd tick of kind " + (m + 1), x.magnetIs(m, 5), odd[m]);
        }
        x.tick(1);
        int[] even = {-3, 7, -7, -3, 0, 14};
        for (int m = 0; m < 6; m++) {
            due.is("pull at an even tick of kind " + (m + 1), x.magnetIs(m, 5), even[m]);
        }
    }

    private static void pullIsHeld() {
        pulls("998", 9, 3, 998, 499, -998, 998, 499, 995, -1996);
        pulls("999", 9, 3, 999, 499, -999, 999, 499, 996, -1998);
        pulls("1000", 9, 3, 999, 499, -999, 999, 499, 996, -1998);
        pulls("0-999", 9, 3, -999, -499, 999, -999, -499, 0, 1998);
        pulls("0-1000", 9, 3, -999, -499, 999, -999, -499, 0, 1998);
        pulls("9999*9999*21", 9, 3, 999, 499, -999, 999, 499, 996, -1998);
        pulls("9999*9999*22", 9, 3, -999, -499, 999, -999, -499, 0, 1998);
        pulls("s", 99, 3, 99, 49, -99, 99, 49, 96, -198);
        pulls("r", 99, 20, 20, 10, -20, 20, 10, 17, -40);
    }

    private static void faintAndShy() {
        ThreeMagnets x = Worlds.still();
        x.magnet(4, 20, 0, 99);
        x.push(-15, 0);
        Due.text(x, 0, "0");
        x.tick(1);
        x.untell(0);
        due.is("faint, some sixteenths beyond 20", x.magnetIs(0, 5), 19);
        x.push(-1, 0);
        Due.text(x, 0, "0");
        x.tick(1);
        x.untell(0);
        due.is("faint, at 21", x.magnetIs(0, 5), 0);
        due.is("shy of 2", pull("2", 5, 0, 0), 0);
        due.is("shy of 3", pull("3", 5, 0, 0), 0);
        due.is("shy of 4", pull("4", 5, 0, 0), 1);
    }

    private static void rests(int quiet, int u, int v, int want) {
        ThreeMagnets x = Worlds.still();
        x.magnet(0, 0, 0, 0);
        x.rule(3, quiet);
        x.push(u, v);
        due.is("quiet " + quiet + " by " + u + " " + v, x.bob(5), want);
    }

    private static void near(int near, int far, int want) {
        ThreeMagnets x = Worlds.still();
        x.magnet(0, 0, -far, 0);
        x.rule(4, near);
        due.is("near " + near + " and " + far + " off", x.bob(5), want);
        due.is("near " + near + " and " + far + " off", x.ends(0, 0, 0, 0), want);
    }

    private static void quietAndNear() {
        rests(0, 0, 0, 0);
        rests(0, 1, 0, 9);
        rests(0, -1, 0, 9);
        rests(0, 0, 1, 9);
        rests(0, 0, -1, 9);
        rests(0, 1, -1, 9);
        rests(99, 50, -49, 0);
        rests(99, -50, -50, 9);
        rests(99, -99, 0, 0);
        rests(99, 0, 100, 9);
        near(0, 0, 0);
        near(0, 1, 9);
        near(4, 4, 0);
        near(4, 5, 9);
        near(99, 99, 0);
        near(99, 100, 9);
        ThreeMagnets x = Worlds.still();
        x.rule(4, 0);
        x.magnet(0, 0, 0, 0);
        x.push(7, 8);
        x.tick(1);
        x.push(0, 0);
        due.is("near 0, less than a place off", x.bob(5), 0);
        x.push(0, 1);
        x.tick(1);
        due.is("near 0, a place off", x.bob(5), 9);
    }

    private static void restKinds() {
        int[] at = {0, 0, 9, 0, 0, 0, 9};
        for (int kind = 0; kind < 7; kind++) {
            ThreeMagnets x = Worlds.still();
            x.magnet(kind, 3, 0, 0);
            due.is("rests at kind " + kind, x.bob(5), at[kind]);
            x.magnet(0, 0, 4, 0);
            due.is("the nearest that is none of pushing, " + kind, x.bob(5), at[kind] == 0 ? 0 : 1);
            x.shift(1, 4, 0, 3);
            due.is("of like ones, " + kind, x.bob(5), at[kind] == 0 ? 0 : 1);
            x.shift(1, 5, 2, 0);
            due.is("the least far, " + kind, x.bob(5), 1);
            x.shift(1, 0, 5, 0);
            due.is("a second one too far, " + kind, x.bob(5), at[kind]);
        }
    }

    private static void timed(int limit, int fine, int place, int end, int length) {
        ThreeMagnets x = Worlds.still();
        x.rule(4, 0);
        x.rule(3, 99);
        x.rule(2, limit);
        x.rule(5, fine);
        x.magnet(0, 100, 7, 0);
        due.is("limit " + limit + " from " + place, x.ends(place, 7, 16 * fine, 0), end);
        x.push(16 * fine, 0);
        due.is("a length is of speed 0", x.length(place, 7), place == 100 ? 0 : limit * fine);
        Due.text(x, 0, fine == 1 ? "(n=0)*16*(r+1)/r+(n=0)" : "0");
        due.is("length " + limit + " from " + place, fine == 1 ? x.length(place, 7) : length, length);
    }

    /** A bob that goes a place a tick: it rests at 100, 7 behind as many ticks as it has places to go. */
    private static void endsInTime() {
        timed(1, 1, 100, 0, 0);
        timed(1, 1, 99, 0, 1);
        timed(1, 1, 98, 9, 1);
        timed(60, 1, 40, 0, 60);
        timed(60, 1, 39, 9, 60);
        timed(80, 1, 20, 0, 80);
        timed(80, 1, 19, 9, 80);
        timed(1, 2, 98, 0, 2);
        timed(1, 2, 97, 9, 2);
        timed(80, 2, -60, 0, 160);
        timed(80, 2, -61, 9, 160);
    }

    private static void firstRestCounts() {
        ThreeMagnets x = Worlds.still();
        x.magnet(0, 40, 0, 0);
        x.magnet(0, 20, 0, 0);
        x.rule(3, 99);
        x.rule(4, 1);
        due.is("at which it rests first", x.ends(0, 0, 64, 0), 1);
        due.is("at which it rests first", x.ends(49, 0, -64, 0), 0);
        due.is("it rests ahead of the first tick", x.ends(21, 0, 64, 0), 1);
        due.is("too fast to rest", x.ends(0, 0, 100, 0), 9);
        x.shift(1, 2, 20, 0);
        due.is("a pushing one is gone by", x.ends(0, 0, 64, 0), 0);
    }

    /** What a text answers on a new object. */
    private static int text(int use, String text) {
        return Due.text(new ThreeMagnets(), use, text);
    }

    private static void firstBytes() {
        String[] names = {"rsn", "vrn", "clxye"};
        for (int use = 0; use < 3; use++) {
            for (int b = 0; b < 256; b++) {
                boolean whole = b >= '0' && b <= '9' || names[use].indexOf(b) >= 0;
                boolean opens = b == '!' || b == '(';
                due.is("use " + use + ", byte " + b + " alone", text(use, "" + (char) b), whole ? 1 : opens ? -11 : -10);
            }
            due.is("use " + use + ", no byte", text(use, ""), -10);
        }
    }

    private static void bytesBehindAName() {
        for (int b = 0; b < 256; b++) {
            boolean joins = "|&<=>+-*/%".indexOf(b) >= 0;
            due.is("byte " + b + " behind a name", text(0, "r" + (char) b), joins ? -12 : -11);
            due.is("byte " + b + " behind a name, and more", text(0, "r" + (char) b + "r"), joins ? 1 : -11);
        }
    }

    private static void bytesBehindANumber() {
        for (int b = 0; b < 256; b++) {
            boolean joins = "|&<=>+-*/%".indexOf(b) >= 0;
            boolean digit = b >= '0' && b <= '9';
            due.is("byte " + b + " behind 7", text(0, "7" + (char) b), digit ? 1 : joins ? -12 : -11);
            due.is("byte " + b + " behind 789", text(0, "789" + (char) b), digit ? 1 : joins ? -14 : -13);
            due.is("byte " + b + " behind 7890", text(0, "7890" + (char) b), joins ? -15 : -14);
        }
    }

    private static void bytesBehindAnOpenedT() {
        for (int b = 0; b < 256; b++) {
            boolean joins = "|&<=>+-*/%".indexOf(b) >= 0;
            due.is("byte " + b + " behind (r", text(0, "(r" + (char) b), b == ')' ? 1 : joins ? -13 : -12);
            boolean compares = "<=>".indexOf(b) >= 0;
            due.is("byte " + b + " behind r<s", text(0, "r<s" + (char) b), joins && !compares ? -14 : -13);
            due.is("byte " + b + " behind (r)", text(0, "(r)" + (char) b), joins ? -14 : -13);
            boolean whole = b >= '0' && b <= '9' || "rsn".indexOf(b) >= 0;
            due.is("byte " + b + " behind !", text(0, "!" + (char) b), whole ? 1 : b == '!' || b == '(' ? -12 : -11);
            due.is("byte " + b + " behind r*", text(0, "r*" + (char) b), whole ? 1 : b == '!' || b == '(' ? -13 : -12);
        }
    }

    private static void longestTexts() {
        String sum = "r+".repeat(29) + "r";
        valued("!" + sum, 0 + 29 * 3);
        valued("(" + "r+".repeat(28) + "s" + ")", 28 * 3 + 50);
        valued("1+" + sum.substring(0, 57), 1 + 29 * 3);
        valued("9-(" + "1-(".repeat(4) + "r" + ")".repeat(5), 9 - (1 - (1 - (1 - (1 - 3)))));
        due.is("sixty bytes that end too early", text(0, "(" + sum), -70);
        due.is("sixty bytes that end too early", text(0, sum + "*"), -70);
        due.is("a fault at the sixtieth byte", text(0, sum + ")"), -69);
    }

    private static void openAtOnce() {
        for (int ways = 0; ways < 32; ways++) {
            StringBuilder open = new StringBuilder();
            StringBuilder shut = new StringBuilder();
            for (int k = 0; k < 5; k++) {
                boolean not = (ways >> k & 1) == 0;
                open.append(not ? '!' : '(');
                shut.append(not ? "" : ")");
            }
            due.is("five are open " + open, text(0, open + "r" + shut), 1);
            due.is("six are open " + open, text(0, open + "!r" + shut), -15);
            due.is("six are open " + open, text(0, open + "(r)" + shut), -15);
            due.is("five are open once more " + open, text(0, open + "r" + shut + "+" + open + "r" + shut), 1);
            due.is("six by a second one " + open, text(0, "!(" + open + "r" + shut + ")"), -15);
        }
        due.is("none is left open", text(0, "!r*!r*!r*!r*!r*!r*!(!(!r))*(r)"), 1);
    }

    /** The value of a text by a pull; r is 3, s is 50, n is 0. */
    private static void valued(String text, int want) {
        ThreeMagnets x = new ThreeMagnets();
        x.magnet(0, 3, 0, 50);
        due.is("text " + text, Due.text(x, 0, text), 1);
        due.is("value of " + text, x.magnetIs(0, 5), want);
    }

    private static void textsOneBehindAnother() {
        ThreeMagnets x = new ThreeMagnets();
        x.magnet(0, 3, 0, 50);
        for (int k = 0; k < 40; k++) {
            due.is("text " + k, Due.text(x, 0, "r*9-" + k), 1);
            due.is("value " + k, x.magnetIs(0, 5), 27 - k);
            due.is("a fault between", Due.text(x, 0, "(n+1"), -14);
            due.is("the one ahead stays", x.magnetIs(0, 5), 27 - k);
        }
    }

    /** The greatest WANT of a picture of one cell at 3, -5: any number. */
    private static void wanted(String text, int want) {
        ThreeMagnets x = new ThreeMagnets();
        x.picture(3, -5, 11, 1);
        due.is("text " + text, Due.text(x, 2, text), 1);
        due.is("want by " + text, x.want(1), want);
        due.is("where by " + text, x.want(0), 0);
    }

    private static void wrappedValues() {
        String least = "256*256*256*128";
        wanted(least, LEAST);
        wanted(least + "-1", MOST);
        wanted(least + "-1+1", LEAST);
        wanted("0-" + least, LEAST);
        wanted(least + "+" + least, 0);
        wanted(least + "*2", 0);
        wanted(least + "/(0-1)", LEAST);
        wanted(least + "%(0-1)", 0);
        wanted("(" + least + "-1)*(" + least + "-1)", 1);
        wanted(least + "<0", 1);
        wanted(least + ">(" + least + "-1)", 0);
        wanted(least + "=(0-" + least + ")", 1);
        wanted("9999*9999", 99980001);
        wanted("9999*9999*9999", (int) (9999L * 9999 * 9999));
        wanted("!(" + least + ")", 0);
        wanted("(" + least + ")&(" + least + ")", 1);
    }

    private static void cutValues() {
        wanted("0-7/2", -3);
        wanted("(0-7)/2", -3);
        wanted("7/(0-2)", -3);
        wanted("(0-7)/(0-2)", 3);
        wanted("(0-7)%3", -1);
        wanted("7%(0-3)", 1);
        wanted("(0-7)%(0-3)", -1);
        wanted("6%3", 0);
        wanted("1/2", 0);
        wanted("(0-1)/2", 0);
        for (String zero : new String[] {"0", "0000", "(x-3)", "!7", "(1-1)"}) {
            wanted("7/" + zero, 0);
            wanted("7%" + zero, 0);
            wanted("0/" + zero, 0);
            wanted("0%" + zero, 0);
            wanted("(0-9)/" + zero + "+4", 4);
        }
    }

    private static void truth() {
        wanted("!0", 1);
        wanted("!1", 0);
        wanted("!(0-1)", 0);
        wanted("!!9", 1);
        wanted("9&(0-9)", 1);
        wanted("9&0", 0);
        wanted("0&9", 0);
        wanted("0&0", 0);
        wanted("(0-9)|0", 1);
        wanted("0|9", 1);
        wanted("8|9", 1);
        wanted("0|0", 0);
        wanted("2&1", 1);
        wanted("2|1", 1);
        wanted("1<2", 1);
        wanted("2<2", 0);
        wanted("3<2", 0);
        wanted("1>2", 0);
        wanted("2>2", 0);
        wanted("3>2", 1);
        wanted("2=2", 1);
        wanted("2=3", 0);
        wanted("(0-3)<(0-2)", 1);
        wanted("(0-3)>(0-2)", 0);
    }

    private static void order() {
        wanted("0&0|1", 1);
        wanted("1|0&0", 1);
        wanted("(1|0)&0", 0);
        wanted("1&2<1", 0);
        wanted("0=0&0", 0);
        wanted("0=(0&0)", 1);
        wanted("1+1=2", 1);
        wanted("1+(1=2)", 1);
        wanted("5-3-1", 1);
        wanted("5-(3-1)", 3);
        wanted("5-3+1", 3);
        wanted("2+3*4", 14);
        wanted("(2+3)*4", 20);
        wanted("60/5/3", 4);
        wanted("60/(5/3)", 60);
        wanted("7%4*2", 6);
        wanted("2*7%4", 2);
        wanted("7/2*2", 6);
        wanted("!2*3", 0);
        wanted("!0*3", 3);
        wanted("!0+0", 1);
        wanted("!(0+1)", 0);
        wanted("1<2&3>2|0", 1);
        wanted("3-1<2+1", 1);
        wanted("0|1|0&0&1", 1);
        wanted("0009+1", 10);
        wanted("9999+1", 10000);
    }

    /** The speed of a bob behind a tick that rubs by a text. */
    private static void rubbed(String text, int u, int v, int wantU, int wantV) {
        ThreeMagnets x = Worlds.still();
        x.rule(1, 77);
        x.magnet(0, 90, 0, 0);
        x.magnet(2, 10, -3, 0);
        Due.text(x, 1, text);
        x.push(u, v);
        x.tick(1);
        due.is("rubbed by " + text, x.bob(2), wantU);
        due.is("rubbed by " + text, x.bob(3), wantV);
    }

    /** By as many hundredths as the nearest of two magnets is far from a bob that starts at that place. */
    private static void rubbedByFar(int fromX, int fromY, int far) {
        ThreeMagnets x = Worlds.still();
        x.magnet(0, 10, 5, 0);
        x.magnet(6, 5, 10, 0);
        x.let(fromX, fromY);
        Due.text(x, 1, "r");
        x.push(100, -100);
        x.tick(1);
        isAt("rubbed by " + far, x, 16 * fromX + 100 - far, 16 * fromY - 100 + far, 100 - far, far - 100);
    }

    private static void rubbing() {
        rubbed("98", 1000, -1000, 20, -20);
        rubbed("99", 1000, -1000, 10, -10);
        rubbed("100", 1000, -1000, 10, -10);
        rubbed("9999*9999", 1000, -1000, 10, -10);
        rubbed("0", 1000, -1000, 1000, -1000);
        rubbed("1", 1000, -1000, 990, -990);
        rubbed("0-1", 1000, -1000, 1000, -1000);
        rubbed("v", 30, -20, 15, -10);
        rubbed("v=1999", 1000, -999, 990, -990);
        rubbed("(r=13)*50", 100, 0, 50, 0);
        rubbed("(n=0)*50", 100, 0, 50, 0);
        rubbedByFar(30, 5, 20);
        rubbedByFar(5, 30, 20);
        rubbedByFar(-7, 40, 42);
        rubbedByFar(40, -7, 42);
        ThreeMagnets x = Worlds.still();
        x.rule(0, 99);
        x.let(100, 0);
        Due.text(x, 1, "v");
        x.tick(1);
        due.is("v is asked ahead of 3, behind 2", x.bob(2), -1);
        x.rule(0, 0);
        x.let(0, 0);
        Due.text(x, 1, "(r=999)*40+(r>999)");
        x.push(100, 0);
        x.tick(1);
        due.is("r without any", x.bob(2), 60);
        x.untell(1);
        x.rule(1, 50);
        x.tick(1);
        due.is("without a text", x.bob(2), 30);
        Due.text(x, 1, "(n=2)*50");
        x.tick(2);
        due.is("n is the ticks", x.bob(2), 15);
    }

    private static void wantNames() {
        ThreeMagnets x = Worlds.dots(3, -5);
        x.picture(3, -5, 21, 1);
        Due.text(x, 2, "c*9999+l*100+x*10+y+e*1000");
        due.is("want at a magnet, and blind", x.want(0), 10);
        due.is("want by all names", x.want(1), 89991 + 6000 + 40 - 5 + 1000);
        Due.text(x, 2, "0-(c*9999+l*100+x*10+y+e*1000)");
        due.is("want at a magnet, and blind", x.want(0), 0);
        due.is("want by all names", x.want(1), -(30 - 5 + 1000));
        x.picture(30, 30, 22, 1);
        Due.text(x, 2, "0-e");
        due.is("no edge", x.want(1), 0);
        Due.text(x, 2, "e-1");
        due.is("no edge", x.want(1), -1);
    }
}
