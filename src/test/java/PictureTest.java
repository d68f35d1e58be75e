/** Promises 20 to 31: pictures, throws, seed. */
public final class PictureTest {
    private static final Due due = new Due();

    public static void main(String[] args) {
        promise20Picture();
        promise20Beyond();
        promise20Stays();
        promise21Cell();
        promise22Share();
        promise23Edge();
        promise24SeenCells();
        promise24Finer();
        promise25Sure();
        promise26Turned();
        promise27Fair();
        promise28Want();
        promise29Throws();
        promise30ThrownAt();
        promise31Seed();
        noPicture();
        due.end("PictureTest");
    }

    /** Which error comes first without a picture. */
    private static void noPicture() {
        ThreeMagnets x = new ThreeMagnets();
        due.is("21 none first", x.cell(-1, 9), Due.NONE);
        due.is("22 beyond first", x.share(6), Due.BEYOND);
        due.is("22 none", x.share(0), Due.NONE);
        due.is("23 none first", x.edge(-1, 9), Due.NONE);
        due.is("24 beyond first", x.seen(4), Due.BEYOND);
        due.is("24 none", x.seen(0), Due.NONE);
        due.is("25 beyond first", x.sure(6, 0, 0), Due.BEYOND);
        due.is("25 none", x.sure(9, 5, 1), Due.NONE);
        due.is("26 beyond first", x.turned(4), Due.BEYOND);
        due.is("26 none", x.turned(0), Due.NONE);
        due.is("27 beyond first", x.fair(2), Due.BEYOND);
        due.is("27 none", x.fair(0), Due.NONE);
        due.is("28 beyond first", x.want(2), Due.BEYOND);
        due.is("28 none", x.want(0), Due.NONE);
        x.magnet(0, 0, 0, 0);
        due.is("27 none with magnets", x.fair(0), Due.NONE);
        due.is("20 wrong", x.picture(0, 0, 67, 1), Due.BEYOND);
        due.is("20 none then", x.cell(0, 0), Due.NONE);
    }

    private static void promise20Picture() {
        ThreeMagnets x = Worlds.dots(1, 2, 3, 0);
        due.is("20 three colours", x.picture(0, 0, 43, 1), 3);
        due.is("20 cells", x.count(1), 12);
        for (int j = 0; j < 3; j++) {
            for (int i = 0; i < 4; i++) {
                int colour = i == 1 && j == 2 ? 0 : i == 3 && j == 0 ? 1 : 9;
                due.is("20 cell " + i + " " + j, x.cell(i, j), colour);
            }
        }
        due.is("20 step", x.picture(-5, 2, 21, 6), 2);
        due.is("20 first", x.cell(0, 0), 9);
        due.is("20 further on", x.cell(1, 0), 0);
        due.is("20 one cell", x.picture(3, 0, 11, 40), 1);
        due.is("20 one cell", x.cell(0, 0), 1);
    }

    private static void promise20Beyond() {
        ThreeMagnets x = Worlds.dots(0, 0);
        x.picture(0, 0, 22, 1);
        int[] wrong = {0, 10, 70, 17, 6, 61 + 6, 71, -11, 67, 1, 60, 100, Integer.MIN_VALUE, Integer.MAX_VALUE};
        for (int wh : wrong) {
            due.is("20 wh " + wh, x.picture(0, 0, wh, 1), Due.BEYOND);
        }
        due.is("20 step", x.picture(0, 0, 11, 0), Due.BEYOND);
        due.is("20 step", x.picture(0, 0, 11, 41), Due.BEYOND);
        due.is("20 place", x.picture(101, 0, 11, 1), Due.BEYOND);
        due.is("20 place", x.picture(0, -101, 11, 1), Due.BEYOND);
        due.is("20 cell beyond", x.picture(1, 0, 61, 20), Due.BEYOND);
        due.is("20 cell beyond", x.picture(0, 1, 16, 20), Due.BEYOND);
        due.is("20 the one ahead stays", x.count(1), 4);
        due.is("20 the one ahead stays", x.cell(0, 0), 0);
        due.is("20 just on", x.picture(0, 0, 66, 20), 2);
        due.is("20 just on", x.picture(-100, -100, 66, 40), 1);
        due.is("20 just on", x.picture(100, -100, 16, 40), 1);
    }

    private static void promise20Stays() {
        ThreeMagnets x = Worlds.dots(0, 0);
        x.picture(0, 0, 22, 1);
        x.shift(0, 0, 1, 1);
        due.is("20 stays", x.cell(0, 0), 0);
        due.is("20 stays", x.cell(1, 1), 9);
        x.rule(2, 5);
        due.is("24 lengths stay", x.seen(3), 180);
        x.picture(0, 0, 22, 1);
        due.is("20 anew", x.cell(1, 1), 0);
        due.is("24 lengths anew", x.seen(3), 15);
    }

    private static void promise21Cell() {
        ThreeMagnets x = Worlds.dots(1, 0);
        x.picture(0, 0, 23, 1);
        due.is("21 cell", x.cell(1, 0), 0);
        due.is("21 cell", x.cell(0, 2), 9);
        due.is("21 i", x.cell(2, 0), Due.BEYOND);
        due.is("21 i", x.cell(-1, 0), Due.BEYOND);
        due.is("21 j", x.cell(0, 3), Due.BEYOND);
        due.is("21 j", x.cell(0, -1), Due.BEYOND);
        due.is("21 any", x.cell(Integer.MAX_VALUE, Integer.MIN_VALUE), Due.BEYOND);
    }

    private static void promise22Share() {
        ThreeMagnets x = Worlds.dots(1, 1, 50, 50, 2, 2);
        x.picture(0, 0, 33, 1);
        int[] shares = {1, 0, 1, 0, 0, 0};
        for (int c = 0; c < 6; c++) {
            due.is("22 share of " + c, x.share(c), shares[c]);
        }
        due.is("22 blind", x.share(9), 7);
        for (int c = 6; c < 9; c++) {
            due.is("22 no colour", x.share(c), Due.BEYOND);
        }
        due.is("22 no colour", x.share(-1), Due.BEYOND);
        due.is("22 no colour", x.share(10), Due.BEYOND);
    }

    private static void promise23Edge() {
        ThreeMagnets x = Worlds.dots(1, 1);
        x.picture(0, 0, 43, 1);
        int[][] edges = {{0, 1, 0, 0}, {1, 1, 1, 0}, {0, 1, 0, 0}};
        for (int j = 0; j < 3; j++) {
            for (int i = 0; i < 4; i++) {
                due.is("23 edge " + i + " " + j, x.edge(i, j), edges[j][i]);
            }
        }
        due.is("23 beyond", x.edge(4, 0), Due.BEYOND);
        due.is("23 beyond", x.edge(0, 3), Due.BEYOND);
        due.is("23 beyond", x.edge(-1, 0), Due.BEYOND);
        due.is("23 beyond", x.edge(0, -1), Due.BEYOND);
    }

    private static void promise24SeenCells() {
        ThreeMagnets x = Worlds.dots(1, 1, 2, 2);
        x.picture(0, 0, 44, 1);
        due.is("24 edges", x.seen(0), 8);
        due.is("24 threes", x.seen(1), 1);
        due.is("24 lengths", x.seen(3), 14 * 60);
        x.magnet(0, 2, 1, 0);
        x.magnet(0, 3, 3, 0);
        x.picture(0, 0, 44, 1);
        due.is("24 threes, too many colours too", x.seen(1), 4);
        x.picture(0, 0, 61, 1);
        due.is("24 no squares", x.seen(1), 0);
        due.is("24 beyond", x.seen(4), Due.BEYOND);
        due.is("24 beyond", x.seen(-1), Due.BEYOND);
    }

    private static void promise24Finer() {
        ThreeMagnets x = Worlds.dots(0, 0, 1, 1);
        x.picture(0, 0, 22, 2);
        due.is("24 finer", x.seen(2), 3);
        x.shift(1, 0, 3, 0);
        due.is("24 finer, as it is now", x.seen(2), 4);
        due.is("24 edges stay", x.seen(0), 3);
        x.shift(0, 0, 50, 50);
        due.is("24 elsewhere than the cell", x.seen(2), 4);
        ThreeMagnets y = Worlds.dots(100, 100);
        y.picture(98, 100, 21, 2);
        due.is("24 those beyond are left out", y.seen(2), 0);
        y.picture(97, 97, 22, 3);
        due.is("24 half is cut", y.seen(2), 0);
        y.shift(0, 0, 98, 97);
        y.picture(97, 97, 22, 3);
        due.is("24 no edges", y.seen(2), 0);
        ThreeMagnets z = Worlds.dots(0, 0);
        z.picture(0, 0, 21, 1);
        due.is("24 half of one is none", z.seen(2), 0);
        z.takeOff();
        due.is("24 the cell's own place, three times", z.seen(2), 3);
    }

    private static void promise25Sure() {
        ThreeMagnets x = Worlds.dots(1, 1, 4, 3);
        x.picture(0, 0, 54, 1);
        due.is("25 itself", x.sure(0, 0, 0), 11);
        due.is("25 itself", x.sure(0, 0, 1), 1);
        due.is("25 corners too", x.sure(0, 1, 0), 0);
        due.is("25 corners too", x.sure(1, 1, 0), 32);
        due.is("25 least j, then least i", x.sure(1, 1, 1), 1);
        due.is("25 none of it", x.sure(5, 5, 0), 0);
        due.is("25 none of it", x.sure(5, 5, 1), 0);
        due.is("25 blind", x.sure(9, 1, 0), 31);
        due.is("25 blind", x.sure(9, 1, 1), 9);
        due.is("25 all", x.sure(9, 5, 1), 18);
        due.is("25 colour", x.sure(6, 0, 0), Due.BEYOND);
        due.is("25 colour", x.sure(-1, 0, 0), Due.BEYOND);
        due.is("25 d", x.sure(0, 6, 0), Due.BEYOND);
        due.is("25 d", x.sure(0, -1, 0), Due.BEYOND);
        due.is("25 what", x.sure(0, 0, 2), Due.BEYOND);
        due.is("25 what", x.sure(0, 0, -1), Due.BEYOND);
    }

    private static void turns(ThreeMagnets x, int wh, int... want) {
        x.picture(0, 0, wh, 1);
        for (int k = 0; k < 4; k++) {
            due.is("26 " + wh + " turned by " + k, x.turned(k), want[k]);
        }
    }

    private static void promise26Turned() {
        turns(Worlds.dots(1, 1), 33, 1, 1, 1, 1);
        turns(Worlds.dots(0, 0), 33, 1, 0, 0, 0);
        turns(Worlds.dots(0, 0, 2, 2), 33, 1, 0, 1, 0);
        turns(Worlds.dots(0, 0, 2, 0, 2, 2, 0, 2), 33, 1, 1, 1, 1);
        turns(Worlds.dots(0, 0, 2, 0, 2, 2), 33, 1, 0, 0, 0);
        turns(Worlds.dots(0, 0), 11, 1, 1, 1, 1);
        turns(Worlds.dots(0, 0, 1, 1), 22, 1, 0, 1, 0);
        ThreeMagnets x = Worlds.dots(0, 0, 0, 1);
        x.rule(4, 0);
        turns(x, 22, 1, 0, 0, 0);
        x.picture(0, 0, 21, 1);
        due.is("26 unlike", x.turned(0), Due.STATE);
        due.is("26 unlike", x.turned(2), Due.STATE);
        due.is("26 beyond ahead of state", x.turned(4), Due.BEYOND);
        due.is("26 beyond", x.turned(-1), Due.BEYOND);
    }

    private static void isFair(ThreeMagnets x, int above, int below) {
        due.is("27 above", x.fair(0), above);
        due.is("27 below", x.fair(1), below);
    }

    private static void promise27Fair() {
        ThreeMagnets x = Worlds.dots(1, 1);
        x.rule(4, 1);
        x.picture(0, 0, 33, 1);
        isFair(x, 0, 1);
        x.magnet(0, 50, 50, 0);
        isFair(x, 5, 9);
        x.takeOff();
        x.magnet(0, 3, 3, 0);
        x.picture(0, 0, 44, 1);
        isFair(x, 1, 8);
        x.magnet(2, 0, 0, 0);
        isFair(x, 5, 16);
        due.is("27 beyond", x.fair(2), Due.BEYOND);
        due.is("27 beyond", x.fair(-1), Due.BEYOND);
        x.picture(60, 60, 22, 1);
        isFair(x, 0, 1);
        x.takeOff();
        x.takeOff();
        x.takeOff();
        due.is("27 no magnets", x.fair(0), Due.NONE);
        due.is("27 beyond ahead of none", x.fair(2), Due.BEYOND);
    }

    private static void wants(ThreeMagnets x, String text, int where, int want) {
        Due.text(x, 2, text);
        due.is("28 where " + text, x.want(0), where);
        due.is("28 how much " + text, x.want(1), want);
    }

    private static void promise28Want() {
        ThreeMagnets x = Worlds.dots(-8, 7);
        x.picture(-10, 5, 32, 2);
        due.is("28 without a text", x.want(0), 0);
        due.is("28 without a text", x.want(1), 0);
        wants(x, "0-c", 11, 0);
        wants(x, "c", 0, 9);
        wants(x, "0-l", 11, 0);
        wants(x, "l", 0, 60);
        wants(x, "x", 20, -6);
        wants(x, "y", 1, 7);
        wants(x, "e", 10, 1);
        wants(x, "e*(c=9)*(x>(0-8))", 21, 1);
        wants(x, "0-9999*999", 0, -9989001);
        wants(x, "x*9999*9999*9", 10, 1391374520);
        due.is("28 an error's number is none", Due.text(x, 2, "0-(1000*1000+2)"), 1);
        due.is("28 an error's number is none", x.want(1), -1000002);
        due.is("28 it is not told", x.told(2), 0);
        x.rule(2, 3);
        x.shift(0, 0, 0, 0);
        wants(x, "l+c", 0, 69);
        due.is("28 beyond", x.want(2), Due.BEYOND);
        due.is("28 beyond", x.want(-1), Due.BEYOND);
        x.untell(2);
        due.is("28 without a text", x.want(1), 0);
    }

    private static void promise29Throws() {
        ThreeMagnets x = Worlds.dots(1, 1, -1, 1);
        due.is("29 two draws a throw", x.throwsOf(0, 0, 1, 1), 1);
        due.is("29 z", x.count(5), -1770082073);
        due.is("29 two more", x.throwsOf(0, 0, 1, 1), 1);
        due.is("29 at the other", x.thrownAt(1), 1);
        due.is("29 the latest alone", x.thrownAt(0), 0);
        x.seed(1);
        due.is("29 no wandering", x.throwsOf(0, 0, 0, 40), 0);
        due.is("29 blind", x.thrownAt(9), 40);
        x.seed(1);
        due.is("29 draws without wandering", x.throwsOf(1, 1, 0, 1), 1);
        due.is("29 z", x.count(5), -1770082073);
        ThreeMagnets y = Worlds.dots(100, 1, 1, -99);
        due.is("29 held", y.throwsOf(100, 0, 1, 1), 1);
        y.seed(1);
        due.is("29 held", y.throwsOf(0, -100, 1, 1), 1);
        y.shift(0, 0, -100, 1);
        y.seed(-1770082073);
        due.is("29 held", y.throwsOf(-100, 0, 1, 1), 1);
        due.is("29 place", y.throwsOf(101, 0, 0, 1), Due.BEYOND);
        due.is("29 place", y.throwsOf(0, -101, 0, 1), Due.BEYOND);
        due.is("29 d", y.throwsOf(0, 0, -1, 1), Due.BEYOND);
        due.is("29 d", y.throwsOf(0, 0, 51, 1), Due.BEYOND);
        due.is("29 n", y.throwsOf(0, 0, 0, 0), Due.BEYOND);
        due.is("29 n", y.throwsOf(0, 0, 0, 41), Due.BEYOND);
        due.is("29 as it was", y.thrownAt(0), 1);
        y.throwsOf(0, 0, 50, 40);
    }

    private static void promise30ThrownAt() {
        ThreeMagnets x = Worlds.dots(1, 1, -1, 1);
        due.is("30 none yet", x.thrownAt(9), Due.NONE);
        due.is("30 beyond ahead of none", x.thrownAt(8), Due.BEYOND);
        due.is("29 two", x.throwsOf(0, 0, 1, 2), 2);
        int[] at = {1, 1, 0, 0, 0, 0};
        for (int c = 0; c < 6; c++) {
            due.is("30 thrown at " + c, x.thrownAt(c), at[c]);
        }
        due.is("30 thrown blind", x.thrownAt(9), 0);
        due.is("30 beyond", x.thrownAt(6), Due.BEYOND);
        due.is("30 beyond", x.thrownAt(-1), Due.BEYOND);
        due.is("30 beyond", x.thrownAt(10), Due.BEYOND);
    }

    private static void promise31Seed() {
        ThreeMagnets x = new ThreeMagnets();
        due.is("31 at first", x.seed(-1000001), 1);
        due.is("31 any number", x.seed(Integer.MAX_VALUE), -1000001);
        due.is("31 any number", x.seed(0), Integer.MAX_VALUE);
        due.is("31 z", x.count(5), 0);
        due.is("31 no error", x.told(1), 0);
    }
}
