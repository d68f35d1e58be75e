/** Promises 12 to 19: the bob. */
public final class BobTest {
    private static final Due due = new Due();

    public static void main(String[] args) {
        promise12Let();
        promise13Push();
        promise14Tick();
        promise14ByHand();
        promise14Held();
        promise14Fine();
        promise14TicksAbove();
        promise15Bob();
        promise15Rests();
        promise16Ends();
        promise17Length();
        promise18Doubt();
        promise19Holds();
        due.end("BobTest");
    }

    private static void isAt(String what, ThreeMagnets x, int... want) {
        for (int k = 0; k < want.length; k++) {
            due.is(what + " bob " + k, x.bob(k), want[k]);
        }
    }

    private static void promise12Let() {
        ThreeMagnets x = Worlds.still();
        x.push(9, 8);
        x.tick(3);
        due.is("12 beyond", x.let(101, 0), Due.BEYOND);
        due.is("12 beyond", x.let(-101, 0), Due.BEYOND);
        due.is("12 beyond", x.let(0, 101), Due.BEYOND);
        due.is("12 beyond", x.let(0, -101), Due.BEYOND);
        isAt("12 as it was", x, 27, 24, 9, 8, 3);
        due.is("12 let", x.let(-100, 100), 1);
        isAt("12 let go", x, -1600, 1600, 0, 0, 0);
    }

    private static void promise13Push() {
        ThreeMagnets x = Worlds.still();
        x.let(3, -2);
        x.tick(2);
        due.is("13 push", x.push(9999, -9999), 1);
        isAt("13 all else stays", x, 48, -32, 9999, -9999, 2);
        due.is("13 beyond", x.push(10000, 0), Due.BEYOND);
        due.is("13 beyond", x.push(0, 10000), Due.BEYOND);
        due.is("13 beyond", x.push(-10000, 0), Due.BEYOND);
        due.is("13 beyond", x.push(0, -10000), Due.BEYOND);
        isAt("13 as it was", x, 48, -32, 9999, -9999, 2);
    }

    private static void promise14Tick() {
        ThreeMagnets x = Worlds.still();
        x.push(5, -7);
        due.is("14 one", x.tick(1), 1);
        due.is("14 many", x.tick(199), 200);
        isAt("14 straight on", x, 1000, -1400, 5, -7, 200);
        due.is("14 beyond", x.tick(0), Due.BEYOND);
        due.is("14 beyond", x.tick(201), Due.BEYOND);
        due.is("14 beyond", x.tick(-1), Due.BEYOND);
        due.is("14 most", x.tick(200), 400);
    }

    private static void promise14ByHand() {
        ThreeMagnets x = new ThreeMagnets();
        x.magnet(0, 10, 0, 50);
        x.tick(1);
        isAt("14 pulled", x, 27, 0, 27, 0, 1);
        x = new ThreeMagnets();
        x.let(20, -20);
        x.tick(1);
        isAt("14 gravity", x, 319, -319, -1, 1, 1);
        x.push(-30, 55);
        x.rule(0, 0);
        x.tick(1);
        isAt("14 rub", x, 319 - 27, -319 + 50, -27, 50, 2);
        x = Worlds.still();
        x.magnet(0, 10, 0, 50);
        x.magnet(6, 0, 10, 50);
        x.tick(1);
        isAt("14 two magnets", x, 30, -61, 30, -61, 1);
        x = new ThreeMagnets();
        x.magnet(0, 0, 0, 0);
        due.is("14 rests", x.bob(5), 0);
        due.is("14 also where it rests", x.tick(7), 7);
    }

    private static void promise14Held() {
        ThreeMagnets x = Worlds.still();
        x.let(99, -99);
        x.push(16, -16);
        x.tick(1);
        isAt("14 just at the end", x, 1600, -1600, 16, -16, 1);
        x.tick(1);
        isAt("14 held", x, 1600, -1600, 0, 0, 2);
        x.let(99, 0);
        x.push(17, 5);
        x.tick(1);
        isAt("14 one side is held", x, 1600, 5, 0, 5, 1);
        x.let(-99, 0);
        x.push(-9999, 5);
        x.tick(1);
        isAt("14 one side is held", x, -1600, 5, 0, 5, 1);
    }

    private static void promise14Fine() {
        ThreeMagnets x = new ThreeMagnets();
        x.rule(5, 2);
        x.magnet(0, 10, 0, 50);
        x.tick(1);
        isAt("14 fine", x, 7, 0, 15, 0, 1);
        x.takeOff();
        x.let(50, 0);
        x.rule(0, 50);
        x.rule(1, 0);
        x.tick(1);
        isAt("14 fine gravity", x, 800 - 6, 0, -12, 0, 1);
        x.rule(0, 0);
        x.rule(1, 90);
        x.push(0, 101);
        x.tick(1);
        isAt("14 fine rub", x, 794, 28, 0, 56, 2);
    }

    private static void promise14TicksAbove() {
        ThreeMagnets x = Worlds.still();
        for (int k = 1; k <= 49; k++) {
            due.is("14 ticks", x.tick(200), 200 * k);
        }
        due.is("14 ticks", x.tick(198), 9998);
        due.is("14 above", x.tick(2), Due.STATE);
        due.is("14 beyond ahead of state", x.tick(201), Due.BEYOND);
        due.is("14 stays", x.bob(4), 9998);
        due.is("14 last", x.tick(1), 9999);
        due.is("14 above", x.tick(1), Due.STATE);
        x.let(0, 0);
        due.is("14 anew", x.tick(1), 1);
    }

    private static void promise15Bob() {
        ThreeMagnets x = Worlds.still();
        x.let(1, 2);
        x.push(3, 4);
        x.tick(1);
        isAt("15 bob", x, 19, 36, 3, 4, 1, 9);
        due.is("15 beyond", x.bob(6), Due.BEYOND);
        due.is("15 beyond", x.bob(-1), Due.BEYOND);
    }

    private static void promise15Rests() {
        ThreeMagnets x = Worlds.still();
        x.magnet(2, 0, 0, 0);
        due.is("15 not at a pushing one", x.bob(5), 9);
        x.shift(0, 6, 0, 0);
        due.is("15 nor at one under that", x.bob(5), 9);
        x.magnet(4, 3, 1, 0);
        due.is("15 near", x.bob(5), 1);
        x.shift(1, 4, 3, 2);
        due.is("15 not near", x.bob(5), 9);
        x.rule(4, 5);
        due.is("15 nearer", x.bob(5), 1);
        x.magnet(0, -5, 0, 0);
        due.is("15 of like ones the least number", x.bob(5), 1);
        x.magnet(3, -4, 0, 0);
        due.is("15 the least far", x.bob(5), 3);
        x.push(-5, 3);
        due.is("15 quiet", x.bob(5), 3);
        x.push(-5, 4);
        due.is("15 not quiet", x.bob(5), 9);
        x.rule(3, 9);
        due.is("15 quiet by the rule", x.bob(5), 3);
    }

    private static void promise16Ends() {
        ThreeMagnets x = Worlds.still();
        due.is("16 blind", x.ends(0, 0, 0, 0), 9);
        x.magnet(0, 0, 0, 0);
        due.is("16 at once", x.ends(0, 0, 8, 0), 0);
        due.is("16 too fast", x.ends(0, 0, 9, 0), 9);
        due.is("16 comes by", x.ends(5, 0, -8, 0), 0);
        due.is("16 goes off", x.ends(5, 0, 8, 0), 9);
        x.magnet(1, 0, 50, 0);
        x.rule(2, 80);
        due.is("16 in time", x.ends(0, 10, 0, 8), 1);
        x.rule(2, 71);
        due.is("16 behind the last tick", x.ends(0, 10, 0, 8), 1);
        x.rule(2, 70);
        due.is("16 too late", x.ends(0, 10, 0, 8), 9);
        x.rule(5, 2);
        due.is("16 twice the ticks", x.ends(0, 11, 0, 8), 1);
        isAt("16 the bob stays", x, 0, 0, 0, 0, 0);
        due.is("16 most", x.ends(-100, 100, -9999, 9999), 9);
        due.is("16 beyond", x.ends(101, 0, 0, 0), Due.BEYOND);
        due.is("16 beyond", x.ends(0, -101, 0, 0), Due.BEYOND);
        due.is("16 beyond", x.ends(0, 0, 10000, 0), Due.BEYOND);
        due.is("16 beyond", x.ends(0, 0, 0, -10000), Due.BEYOND);
    }

    private static void promise17Length() {
        ThreeMagnets x = Worlds.still();
        due.is("17 blind", x.length(0, 0), 60);
        x.rule(5, 2);
        due.is("17 blind and fine", x.length(0, 0), 120);
        x.rule(2, 7);
        due.is("17 blind and limit", x.length(0, 0), 14);
        x.rule(5, 1);
        x.magnet(0, 5, 0, 0);
        Due.text(x, 0, "9");
        due.is("17 one tick", x.length(0, 0), 1);
        due.is("17 at once", x.length(1, 0), 0);
        x.tick(9);
        due.is("17 not by the bob's ticks", x.length(0, 0), 1);
        due.is("17 beyond", x.length(101, 0), Due.BEYOND);
        due.is("17 beyond", x.length(0, -101), Due.BEYOND);
    }

    private static void promise18Doubt() {
        ThreeMagnets x = Worlds.still();
        x.magnet(0, 5, 0, 0);
        Due.text(x, 0, "2");
        due.is("18 doubt", x.doubt(0, 0), 1);
        due.is("18 no doubt", x.doubt(1, 0), 0);
        due.is("18 both blind", x.doubt(50, 50), 0);
        Due.text(x, 0, "3");
        due.is("18 twice as great, not more", x.doubt(0, 0), 0);
        Due.text(x, 0, "4");
        due.is("18 no doubt", x.doubt(0, 0), 0);
        x.rule(5, 2);
        due.is("18 doubt of two by four", x.doubt(0, 0), 1);
        due.is("18 the rule stays", x.rule(5, 1), 2);
        due.is("18 beyond", x.doubt(0, 101), Due.BEYOND);
        due.is("18 beyond", x.doubt(-101, 0), Due.BEYOND);
    }

    private static void promise19Holds() {
        ThreeMagnets x = Worlds.still();
        x.magnet(0, 95, 0, 0);
        due.is("19 slow", x.holds(0, 8), 4);
        due.is("19 fast", x.holds(0, 9), 0);
        x.rule(4, 5);
        due.is("19 held by the end", x.holds(0, 30), 1);
        x.magnet(1, 95, 0, 0);
        due.is("19 the least number", x.holds(1, 0), 0);
        due.is("19 the least number", x.holds(0, 0), 4);
        x.shift(0, 2, 95, 0);
        due.is("19 a pushing one", x.holds(0, 0), 0);
        due.is("19 most", x.holds(1, 999), 1);
        due.is("19 beyond", x.holds(2, 0), Due.BEYOND);
        due.is("19 beyond", x.holds(-1, 0), Due.BEYOND);
        due.is("19 beyond", x.holds(0, 1000), Due.BEYOND);
        due.is("19 beyond", x.holds(0, -1), Due.BEYOND);
    }
}
