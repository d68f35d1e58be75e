/** Promises 1 to 8: a new object, magnets, rules. */
public final class PlateTest {
    private static final Due due = new Due();

    public static void main(String[] args) {
        promise1NewObject();
        promise2Magnet();
        promise3MagnetIs();
        promise3PullOfKinds();
        promise4As();
        promise5Shift();
        promise6TakeOff();
        promise7Rule();
        promise8Nearest();
        due.end("PlateTest");
    }

    private static void promise1NewObject() {
        ThreeMagnets x = new ThreeMagnets();
        int[] counts = {0, 0, 0, 0, 0, 1};
        for (int k = 0; k < 6; k++) {
            due.is("1 count " + k, x.count(k), counts[k]);
        }
        int[] bob = {0, 0, 0, 0, 0, 9};
        for (int k = 0; k < 6; k++) {
            due.is("1 bob " + k, x.bob(k), bob[k]);
        }
        due.is("1 no picture", x.cell(0, 0), Due.NONE);
        due.is("1 no throws", x.thrownAt(0), Due.NONE);
        due.is("1 no image", x.restore(), Due.NONE);
        due.is("1 no trace", x.body(0), Due.NONE);
        for (int k = 0; k < 4; k++) {
            due.is("1 no sheet " + k, x.put(k, 0, 0), Due.NONE);
        }
        for (int use = 0; use < 3; use++) {
            due.is("1 no text " + use, x.untell(use), 0);
        }
        int[] rules = {5, 10, 60, 8, 4, 1};
        for (int k = 0; k < 6; k++) {
            due.is("1 rule " + k, x.rule(k, 1), rules[k]);
        }
        ThreeMagnets other = new ThreeMagnets();
        for (int k = 1; k <= 6; k++) {
            due.is("1 told " + k, other.told(k), 0);
        }
    }

    private static void promise2Magnet() {
        ThreeMagnets x = new ThreeMagnets();
        int[][] wrong = {{-1, 0, 0, 0}, {7, 0, 0, 0}, {0, -101, 0, 0}, {0, 101, 0, 0}, {0, 0, -101, 0}, {0, 0, 101, 0},
            {0, 0, 0, -1}, {0, 0, 0, 100}, {Integer.MIN_VALUE, 0, 0, 0}, {0, Integer.MAX_VALUE, 0, 0}};
        for (int[] w : wrong) {
            due.is("2 wrong", x.magnet(w[0], w[1], w[2], w[3]), Due.BEYOND);
        }
        due.is("2 none yet", x.count(0), 0);
        int[][] edges = {{0, -100, 100, 0}, {6, 100, -100, 99}, {1, 0, 0, 50}, {2, 0, 0, 50}, {3, 0, 0, 1}, {4, 7, 8, 9}};
        for (int m = 0; m < 6; m++) {
            due.is("2 number", x.magnet(edges[m][0], edges[m][1], edges[m][2], edges[m][3]), m);
        }
        due.is("2 full", x.magnet(0, 0, 0, 0), Due.FULL);
        due.is("2 beyond ahead of full", x.magnet(7, 0, 0, 0), Due.BEYOND);
        due.is("2 six", x.count(0), 6);
        for (int m = 0; m < 6; m++) {
            for (int what = 0; what < 4; what++) {
                due.is("2 magnet " + m + " is " + what, x.magnetIs(m, what), edges[m][what]);
            }
        }
    }

    private static void promise3MagnetIs() {
        ThreeMagnets x = new ThreeMagnets();
        x.magnet(0, 10, 0, 50);
        x.magnet(1, -3, 4, 7);
        due.is("3 far", x.magnetIs(0, 4), 10);
        due.is("3 pull", x.magnetIs(0, 5), 34);
        due.is("3 far", x.magnetIs(1, 4), 7);
        x.push(-15, -15);
        x.rule(0, 0);
        x.rule(1, 0);
        Due.text(x, 0, "0");
        x.tick(1);
        due.is("3 far of sixteenths", x.magnetIs(0, 4), 11);
        due.is("3 far of sixteenths", x.magnetIs(1, 4), 7);
        due.is("3 no magnet", x.magnetIs(2, 0), Due.BEYOND);
        due.is("3 no magnet", x.magnetIs(-1, 0), Due.BEYOND);
        due.is("3 no what", x.magnetIs(0, 6), Due.BEYOND);
        due.is("3 no what", x.magnetIs(0, -1), Due.BEYOND);
    }

    private static void promise3PullOfKinds() {
        int[] even = {34, 17, -34, 34, 17, 31, -68};
        int[] odd = {34, 17, -34, 0, 17, 0, -68};
        ThreeMagnets x = Worlds.still();
        for (int kind = 0; kind < 7; kind++) {
            ThreeMagnets y = Worlds.still();
            y.magnet(kind, 10, 0, 50);
            due.is("3 pull of kind " + kind, y.magnetIs(0, 5), even[kind]);
            Due.text(y, 0, "0");
            y.tick(1);
            y.untell(0);
            due.is("3 pull of kind at odd ticks " + kind, y.magnetIs(0, 5), odd[kind]);
        }
        ThreeMagnets z = Worlds.still();
        z.magnet(3, 10, 0, 0);
        Due.text(z, 0, "n+9");
        for (int ticks = 0; ticks < 6; ticks++) {
            due.is("3 blinking at " + ticks, z.magnetIs(0, 5), ticks % 2 == 0 ? ticks + 9 : 0);
            z.tick(1);
        }
        x.magnet(4, 20, 0, 99);
        x.magnet(4, 21, 0, 99);
        due.is("3 faint near", x.magnetIs(0, 5), 99 * 9 / 23 / 2);
        due.is("3 faint far", x.magnetIs(1, 5), 0);
        x.magnet(5, 90, 0, 10);
        due.is("3 shy is not below 0", x.magnetIs(2, 5), 0);
        x.magnet(5, 5, 0, 6);
        due.is("3 shy", x.magnetIs(3, 5), 54 / 8 - 3);
        Due.text(x, 0, "0-7");
        x.magnet(1, 5, 0, 6);
        x.magnet(6, 5, 0, 6);
        due.is("3 half cut toward 0", x.magnetIs(4, 5), -3);
        due.is("3 twice pushing", x.magnetIs(5, 5), 14);
        due.is("3 shy of what is below 0", x.magnetIs(3, 5), 0);
    }

    private static void promise4As() {
        boolean[][] is = {
            {true, false, false, false, false, false, false}, {true, true, false, false, false, false, false},
            {true, false, true, false, false, false, false}, {true, false, false, true, false, false, false},
            {true, true, false, false, true, false, false}, {true, false, false, true, false, true, false},
            {true, false, true, false, false, false, true},
        };
        for (int kind = 0; kind < 7; kind++) {
            ThreeMagnets x = new ThreeMagnets();
            x.magnet(kind, 0, 0, 30 + kind);
            for (int as = 0; as < 7; as++) {
                due.is("4 " + kind + " as " + as, x.as(0, as), is[kind][as] ? 30 + kind : Due.KIND);
            }
            due.is("4 no kind", x.as(0, 7), Due.BEYOND);
            due.is("4 no kind", x.as(0, -1), Due.BEYOND);
            due.is("4 no magnet", x.as(1, 0), Due.BEYOND);
            due.is("4 no magnet", x.as(-1, 0), Due.BEYOND);
        }
    }

    private static void promise5Shift() {
        ThreeMagnets x = new ThreeMagnets();
        x.magnet(3, 1, 2, 44);
        due.is("5 no magnet", x.shift(1, 0, 0, 0), Due.BEYOND);
        due.is("5 no kind", x.shift(0, 7, 0, 0), Due.BEYOND);
        due.is("5 no place", x.shift(0, 0, 101, 0), Due.BEYOND);
        due.is("5 no place", x.shift(0, 0, 0, -101), Due.BEYOND);
        due.is("5 as it was", x.magnetIs(0, 0), 3);
        due.is("5 shift", x.shift(0, 6, -100, 100), 3);
        int[] now = {6, -100, 100, 44};
        for (int what = 0; what < 4; what++) {
            due.is("5 is " + what, x.magnetIs(0, what), now[what]);
        }
        due.is("5 shift again", x.shift(0, 0, 0, 0), 6);
    }

    private static void promise6TakeOff() {
        ThreeMagnets x = new ThreeMagnets();
        due.is("6 none", x.takeOff(), Due.NONE);
        x.magnet(1, 1, 1, 1);
        x.magnet(2, 2, 2, 2);
        due.is("6 last", x.takeOff(), 1);
        due.is("6 gone", x.magnetIs(1, 0), Due.BEYOND);
        due.is("6 first stays", x.magnetIs(0, 0), 1);
        due.is("6 number again", x.magnet(3, 3, 3, 3), 1);
        due.is("6 last", x.takeOff(), 1);
        due.is("6 last", x.takeOff(), 0);
        due.is("6 none", x.takeOff(), Due.NONE);
    }

    private static void promise7Rule() {
        ThreeMagnets x = new ThreeMagnets();
        int[] first = {5, 10, 60, 8, 4, 1};
        int[] least = {0, 0, 1, 0, 0, 1};
        int[] most = {99, 99, 80, 99, 99, 2};
        for (int k = 0; k < 6; k++) {
            due.is("7 below", x.rule(k, least[k] - 1), Due.BEYOND);
            due.is("7 above", x.rule(k, most[k] + 1), Due.BEYOND);
            due.is("7 first", x.rule(k, least[k]), first[k]);
            due.is("7 least", x.rule(k, most[k]), least[k]);
            due.is("7 most", x.rule(k, most[k]), most[k]);
        }
        due.is("7 no rule", x.rule(-1, 1), Due.BEYOND);
        due.is("7 no rule", x.rule(6, 1), Due.BEYOND);
        due.is("7 told", x.told(1), 14);
    }

    private static void promise8Nearest() {
        ThreeMagnets x = new ThreeMagnets();
        due.is("8 none", x.nearest(0, 0, 0), Due.NONE);
        due.is("8 beyond ahead of none", x.nearest(101, 0, 0), Due.BEYOND);
        due.is("8 beyond ahead of none", x.nearest(0, 0, 2), Due.BEYOND);
        x.magnet(0, 10, 0, 0);
        x.magnet(6, 0, 10, 0);
        x.magnet(0, -4, 4, 0);
        due.is("8 nearest", x.nearest(0, 0, 0), 2);
        due.is("8 its far", x.nearest(0, 0, 1), 8);
        due.is("8 of like ones", x.nearest(5, 5, 0), 0);
        due.is("8 of like ones", x.nearest(5, 5, 1), 10);
        due.is("8 pushing too", x.nearest(0, 9, 0), 1);
        due.is("8 corner", x.nearest(-100, -100, 1), 200);
        due.is("8 corner", x.nearest(100, 100, 0), 0);
        due.is("8 beyond", x.nearest(0, -101, 0), Due.BEYOND);
        due.is("8 beyond", x.nearest(0, 0, -1), Due.BEYOND);
    }
}
