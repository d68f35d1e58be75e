import java.util.Arrays;

/** Section 3 of the document's Terms, sentence by sentence, at its edges: pictures, throws, doubt, holds. */
public final class CellsTest {
    private static final Due due = new Due();

    public static void main(String[] args) {
        sizes();
        steps();
        cellsOnThePlate();
        theLatest();
        edges();
        oneColour();
        threes();
        threesInLongPictures();
        finerPlaces();
        finerAtTheEnds();
        lengths();
        sureCells();
        turnedSizes();
        fairParts();
        wantedOfLikeOnes();
        wantedStays();
        draws();
        throwsAreHeld();
        throwsByAll();
        doubtAndLength();
        holdsEachWay();
        rowsChecked();
        due.end("CellsTest");
    }

    private static void sizes() {
        for (int w = 1; w <= 6; w++) {
            for (int h = 1; h <= 6; h++) {
                ThreeMagnets x = Worlds.dots(w - 1, h - 1);
                String what = w + " by " + h;
                due.is(what, x.picture(0, 0, 10 * w + h, 1), w * h == 1 ? 1 : 2);
                due.is(what + ", cells", x.count(1), w * h);
                due.is(what + ", the last", x.cell(w - 1, h - 1), 0);
                due.is(what + ", the first", x.cell(0, 0), w * h == 1 ? 0 : 9);
                due.is(what + ", beyond", x.cell(w, 0), Due.BEYOND);
                due.is(what + ", beyond", x.cell(0, h), Due.BEYOND);
                due.is(what + ", no edge beyond", x.edge(w, h - 1), Due.BEYOND);
                due.is(what + ", no edge beyond", x.edge(w - 1, h), Due.BEYOND);
                due.is(what + ", share", x.share(0), 1);
                due.is(what + ", blind", x.share(9), w * h - 1);
                due.is(what + ", edges", x.seen(0), w * h == 1 ? 0 : 1 + (w > 1 ? 1 : 0) + (h > 1 ? 1 : 0));
                due.is(what + ", sure", x.sure(0, 0, 0), 10 * (w - 1) + h - 1);
                due.is(what + ", no row", x.check(h), Due.BEYOND);
                due.is(what + ", turned", x.turned(0), w == h ? 1 : Due.STATE);
                due.is(what + ", above the line", x.fair(0), 0);
                due.is(what + ", below the line", x.fair(1), 1);
            }
        }
    }

    private static void steps() {
        for (int step : new int[] {1, 2, 39, 40}) {
            ThreeMagnets x = Worlds.dots(-100 + 2 * step, -90 + step, -100 + step, -90 + 2 * step);
            due.is("step " + step, x.picture(-100, -90, 33, step), 3);
            for (int j = 0; j < 3; j++) {
                for (int i = 0; i < 3; i++) {
                    int want = i == 2 && j == 1 ? 0 : i == 1 && j == 2 ? 1 : 9;
                    due.is("step " + step + ", cell " + i + " " + j, x.cell(i, j), want);
                }
            }
        }
    }

    private static void cellsOnThePlate() {
        ThreeMagnets x = Worlds.dots(100, 100);
        due.is("just on it", x.picture(100, 100, 11, 40), 1);
        due.is("just on it", x.cell(0, 0), 0);
        due.is("just on it", x.picture(60, 100, 21, 40), 2);
        due.is("beyond to the right", x.picture(61, 100, 21, 40), Due.BEYOND);
        due.is("just on it", x.picture(100, 60, 12, 40), 2);
        due.is("beyond below", x.picture(100, 61, 12, 40), Due.BEYOND);
        due.is("just on it", x.picture(-100, -100, 66, 40), 2);
        due.is("just on it", x.cell(5, 5), 0);
        due.is("beyond to the right", x.picture(-99, -100, 66, 40), Due.BEYOND);
        due.is("beyond below", x.picture(-100, -99, 66, 40), Due.BEYOND);
        due.is("just on it", x.picture(95, 95, 66, 1), 2);
        due.is("the latest is as it was made", x.cell(5, 5), 0);
    }

    private static void theLatest() {
        ThreeMagnets x = Worlds.dots(5, 5, 0, 0);
        x.picture(0, 0, 66, 1);
        due.is("of six by six", x.share(0), 1);
        x.picture(0, 0, 21, 1);
        due.is("of the latest", x.count(1), 2);
        due.is("of the latest", x.share(0), 0);
        due.is("of the latest", x.share(1), 1);
        due.is("of the latest", x.share(9), 1);
        due.is("of the latest", x.cell(2, 0), Due.BEYOND);
        due.is("of the latest", x.seen(0), 2);
        due.is("of the latest", x.seen(1), 0);
        due.is("of the latest", x.seen(3), 60);
        due.is("of the latest", x.sure(9, 5, 1), 1);
        due.is("of the latest", x.turned(0), Due.STATE);
        due.is("of the latest", x.fair(1), 2);
        x.picture(0, 0, 16, 1);
        due.is("one wide", x.edge(0, 0), 1);
        due.is("one wide", x.edge(0, 1), 1);
        due.is("one wide", x.edge(0, 2), 0);
        due.is("one wide", x.seen(3), 300);
    }

    /** Whether the middle of three by three cells is an EDGE, by one magnet at another cell. */
    private static void edges() {
        for (int j = 0; j < 3; j++) {
            for (int i = 0; i < 3; i++) {
                ThreeMagnets x = Worlds.dots(i, j);
                x.picture(0, 0, 33, 1);
                boolean beside = Math.abs(i - 1) + Math.abs(j - 1) == 1;
                due.is("another colour at " + i + " " + j, x.edge(1, 1), beside || i == 1 && j == 1 ? 1 : 0);
                due.is("the cell itself at " + i + " " + j, x.edge(i, j), 1);
                due.is("edges by " + i + " " + j, x.seen(0), i == 1 && j == 1 ? 5 : beside ? 4 : 3);
            }
        }
    }

    private static void oneColour() {
        for (int wh : new int[] {11, 61, 16, 63, 36, 66}) {
            ThreeMagnets x = Worlds.still();
            x.magnet(0, 0, 0, 0);
            x.rule(4, 99);
            due.is("one colour " + wh, x.picture(0, 0, wh, 1), 1);
            due.is("one colour, no edges " + wh, x.seen(0), 0);
            due.is("one colour, no threes " + wh, x.seen(1), 0);
            due.is("one colour, none finer " + wh, x.seen(2), 0);
            due.is("one colour, no way to go " + wh, x.seen(3), 0);
            due.is("one colour, an end " + wh, x.edge(0, 0), 0);
            due.is("one colour, an end " + wh, x.edge(wh / 10 - 1, wh % 10 - 1), 0);
            due.is("one colour, blind " + wh, x.share(9), 0);
            x.magnet(0, 90, 90, 0);
            due.is("all at one of two, above " + wh, x.fair(0), 1);
            due.is("all at one of two, below " + wh, x.fair(1), 1);
        }
    }

    /** Each way in which magnets can stand at the cells of a square: BLIND is a colour, too. */
    private static void threes() {
        for (int ways = 0; ways < 16; ways++) {
            ThreeMagnets x = Worlds.dots();
            int magnets = 0;
            for (int k = 0; k < 4; k++) {
                if ((ways >> k & 1) != 0) {
                    x.magnet(0, k % 2, k / 2, 0);
                    magnets++;
                }
            }
            due.is("colours of square " + ways, x.picture(0, 0, 22, 1), magnets == 4 ? 4 : magnets + 1);
            due.is("threes of square " + ways, x.seen(1), magnets >= 2 ? 1 : 0);
        }
        int[][] pairs = {{0, 0, 3, 0}, {0, 0, 0, 3}, {0, 0, 3, 3}};
        for (int[] at : pairs) {
            ThreeMagnets x = Worlds.dots(at);
            x.rule(4, 2);
            x.picture(1, 1, 22, 1);
            due.is("two colours are no three", x.seen(1), x.share(9) > 0 && x.share(0) > 0 && x.share(1) > 0 ? 1 : 0);
        }
        ThreeMagnets x = Worlds.dots(0, 0, 1, 0);
        x.rule(4, 1);
        due.is("two above two", x.picture(0, 0, 22, 1), 2);
        due.is("two colours are no three", x.seen(1), 0);
        x.shift(1, 0, 1, 1);
        x.rule(4, 0);
        due.is("two across and two blind", x.picture(0, 0, 22, 1), 3);
        due.is("two and blind are three", x.seen(1), 1);
    }

    private static void threesInLongPictures() {
        ThreeMagnets x = Worlds.dots(5, 0, 4, 1, 0, 0);
        x.picture(0, 0, 62, 1);
        due.is("at the right end alone", x.seen(1), 1);
        x.picture(0, 0, 61, 1);
        due.is("one row has no squares", x.seen(1), 0);
        ThreeMagnets y = Worlds.dots(0, 5, 1, 4, 0, 0);
        y.picture(0, 0, 26, 1);
        due.is("at the lower end alone", y.seen(1), 1);
        y.picture(0, 0, 16, 1);
        due.is("one column has no squares", y.seen(1), 0);
        ThreeMagnets z = Worlds.dots(0, 0, 1, 1, 5, 5, 4, 5);
        z.picture(0, 0, 66, 1);
        due.is("at both corners", z.seen(1), 2);
        z.picture(1, 1, 55, 1);
        due.is("at one corner", z.seen(1), 1);
    }

    /** A magnet at one of the three further places of the cell at 0, 0 alone; edge or not. */
    private static void finerPlaces() {
        for (int step : new int[] {2, 3, 7, 39, 40}) {
            int half = step / 2;
            int[][] places = {{half, 0, 1}, {0, half, 1}, {half, half, 1}, {half + 1, 0, 0}, {0, half + 1, 0}, {-half, 0, 0},
                {0, -half, 0}, {half, -half, 0}};
            for (int[] at : places) {
                ThreeMagnets x = Worlds.dots(step, 0);
                x.picture(0, 0, 21, step);
                due.is("both are edges", x.seen(0), 2);
                due.is("nothing lies between, step " + step, x.seen(2), 3);
                x.magnet(0, at[0], at[1], 0);
                due.is("at " + at[0] + " " + at[1] + ", step " + step, x.seen(2), 3 + at[2]);
                x.picture(0, 0, 11, step);
                due.is("no edge, none finer", x.seen(2), 0);
            }
        }
    }

    /** What is beyond the plate is left out: to the right, below, both. */
    private static void finerAtTheEnds() {
        int[][] ends = {{100, 0, 1}, {0, 100, 1}, {100, 100, 0}, {99, 0, 3}, {0, 99, 3}, {-100, -100, 3}};
        for (int[] at : ends) {
            ThreeMagnets x = Worlds.dots(at[0], at[1]);
            int h = at[1] > -98 ? 2 : 1;
            int w = h == 2 ? 1 : 2;
            x.picture(at[0], h == 2 ? at[1] - 2 : at[1], 10 * w + h, 2);
            due.is("one by one, at " + at[0] + " " + at[1], x.seen(0), 2);
            due.is("left out at " + at[0] + " " + at[1], x.seen(2), at[2]);
        }
    }

    private static void lengths() {
        ThreeMagnets x = Worlds.dots(0, 0);
        x.picture(0, 0, 11, 1);
        due.is("no way to go", x.seen(3), 0);
        x.rule(2, 80);
        x.rule(5, 2);
        x.picture(50, 50, 66, 1);
        due.is("the greatest", x.seen(3), 36 * 160);
        x.rule(2, 1);
        due.is("as it was then", x.seen(3), 36 * 160);
        x.rule(5, 1);
        x.picture(50, 50, 66, 1);
        due.is("the least of blind ones", x.seen(3), 36);
    }

    private static void sureCells() {
        ThreeMagnets x = Worlds.dots(5, 5, 0, 0, 3, 2);
        x.picture(0, 0, 66, 1);
        due.is("the cell itself alone", x.sure(0, 0, 0), 55);
        for (int d = 0; d <= 5; d++) {
            due.is("as far off as it goes " + d, x.sure(0, d, 0), 11 * (5 - d));
            due.is("one of it " + d, x.sure(0, d, 1), 1);
            due.is("at the first cell " + d, x.sure(1, d, 0), 0);
            due.is("held by the picture's end " + d, x.sure(2, d, 0), 10 * Math.max(0, 3 - d) + Math.max(0, 2 - d));
        }
        due.is("all of them", x.sure(9, 5, 0), 0);
        due.is("all of them", x.sure(9, 5, 1), 33);
        due.is("none of a colour", x.sure(3, 5, 0), 0);
        due.is("none of a colour", x.sure(3, 5, 1), 0);
        due.is("least j, then least i", x.sure(9, 1, 0), 12);
        due.is("nine of them", x.sure(9, 1, 1), 9);
        ThreeMagnets y = Worlds.dots(1, 0, 0, 1);
        y.picture(0, 0, 22, 1);
        due.is("least j first", y.sure(9, 0, 0), 0);
        y.shift(0, 0, 0, 0);
        y.shift(1, 0, 1, 1);
        y.picture(0, 0, 22, 1);
        due.is("least j first", y.sure(9, 0, 0), 10);
    }

    private static void turnedSizes() {
        for (int w = 2; w <= 6; w++) {
            int[] corners = {0, 0, w - 1, 0, w - 1, w - 1, 0, w - 1};
            for (int magnets = 0; magnets <= 4; magnets++) {
                ThreeMagnets x = Worlds.dots(Arrays.copyOf(corners, 2 * magnets));
                x.picture(0, 0, 11 * w, 1);
                // Two by two cells at all corners but one: the blind one is a colour like the others.
                boolean alike = magnets == 0 || magnets == 4 || w == 2 && magnets == 3;
                due.is(magnets + " corners of " + w + " by a quarter", x.turned(1), alike ? 1 : 0);
                due.is(magnets + " corners of " + w + " by two", x.turned(2), alike ? 1 : 0);
                due.is(magnets + " corners of " + w + " by three", x.turned(3), alike ? 1 : 0);
                due.is(magnets + " corners of " + w + " by none", x.turned(0), 1);
            }
            ThreeMagnets x = Worlds.dots(0, 0, w - 1, w - 1);
            x.picture(0, 0, 11 * w, 1);
            due.is("across, by a quarter, " + w, x.turned(1), 0);
            due.is("across, by two, " + w, x.turned(2), 1);
            due.is("across, by three, " + w, x.turned(3), 0);
        }
    }

    private static void fair(ThreeMagnets x, int wh, int above, int below) {
        x.picture(0, 0, wh, 1);
        due.is("above the line", x.fair(0), above);
        due.is("below the line", x.fair(1), below);
    }

    private static void fairParts() {
        ThreeMagnets x = Worlds.dots(0, 0, 1, 0);
        fair(x, 11, 1, 1);
        fair(x, 21, 0, 1);
        x.magnet(0, 99, 99, 0);
        fair(x, 21, 1, 2);
        fair(x, 66, 1, 36);
        fair(x, 65, 1, 30);
        x.rule(4, 1);
        fair(x, 33, 1, 3);
        fair(x, 66, 1, 12);
        fair(x, 55, 3, 25);
        x.picture(50, 50, 66, 1);
        due.is("all blind", x.fair(0), 0);
        due.is("all blind", x.fair(1), 1);
        x.magnet(0, 50, 50, 0);
        due.is("a magnet that came since", x.fair(0), 0);
        x.picture(50, 50, 66, 1);
        due.is("three of thirty-six", x.fair(0), 1);
        due.is("three of thirty-six", x.fair(1), 12);
        x.takeOff();
        due.is("a magnet that is gone", x.fair(0), 0);
        due.is("a magnet that is gone", x.fair(1), 1);
    }

    private static void wantedOfLikeOnes() {
        ThreeMagnets x = Worlds.dots();
        x.picture(0, 0, 66, 1);
        int[][] cells = {{0, 0}, {5, 0}, {0, 5}, {5, 5}, {2, 3}};
        for (int[] at : cells) {
            Due.text(x, 2, "(x=" + at[0] + ")*(y=" + at[1] + ")");
            due.is("the only one", x.want(0), 10 * at[0] + at[1]);
            due.is("the only one", x.want(1), 1);
        }
        Due.text(x, 2, "x+y=5");
        due.is("the least j", x.want(0), 50);
        Due.text(x, 2, "y>2");
        due.is("then the least i", x.want(0), 3);
        Due.text(x, 2, "0-9999*9999");
        due.is("all below 0", x.want(0), 0);
        due.is("all below 0", x.want(1), -99980001);
        Due.text(x, 2, "256*256*256*128");
        due.is("the least number there is", x.want(0), 0);
        due.is("the least number there is", x.want(1), Integer.MIN_VALUE);
        Due.text(x, 2, "256*256*256*128-(x=3)*(y=1)");
        due.is("the greatest number there is", x.want(0), 31);
        due.is("the greatest number there is", x.want(1), Integer.MAX_VALUE);
    }

    /** Colours, lengths and edges of a WANT are the picture's; they stay when all is otherwise since. */
    private static void wantedStays() {
        ThreeMagnets x = Worlds.dots(1, 1);
        x.picture(0, 0, 22, 1);
        x.takeOff();
        x.rule(2, 7);
        x.rule(5, 2);
        Due.text(x, 2, "(c=0)*100+l");
        due.is("a magnet that is gone", x.want(0), 11);
        due.is("a magnet that is gone", x.want(1), 100);
        Due.text(x, 2, "e*100+l");
        due.is("an edge at a magnet that is gone", x.want(0), 10);
        due.is("an edge at a magnet that is gone", x.want(1), 160);
        due.is("its cell", x.cell(1, 1), 0);
        due.is("its share", x.share(0), 1);
        due.is("the edges", x.seen(0), 3);
        due.is("the lengths", x.seen(3), 180);
        due.is("the cell around which most are of it", x.sure(0, 0, 0), 11);
        due.is("turned", x.turned(1), 0);
    }

    private static int next(int z) {
        return (int) (z * 1103515245L + 12345L);
    }

    private static int off(int z, int d) {
        long above = (z & 0xffffffffL) >> 8;
        return (int) (above % (2 * d + 1)) - d;
    }

    private static int onPlate(int at) {
        return at < -100 ? -100 : at > 100 ? 100 : at;
    }

    /** One throw at a time: it ends at a magnet that stands just where it comes to. */
    private static void draws() {
        int[] seeds = {1, 0, -1, 7, 123456789, -987654321, Integer.MIN_VALUE, Integer.MAX_VALUE};
        int[] wanders = {0, 1, 2, 7, 49, 50};
        for (int seed : seeds) {
            for (int d : wanders) {
                int first = next(seed);
                int second = next(first);
                ThreeMagnets x = Worlds.dots(onPlate(3 + off(first, d)), onPlate(-9 + off(second, d)));
                x.seed(seed);
                due.is("thrown by " + d + " from " + seed, x.throwsOf(3, -9, d, 1), 1);
                due.is("two draws from " + seed, x.count(5), second);
                due.is("at the magnet", x.thrownAt(0), 1);
                due.is("not blind", x.thrownAt(9), 0);
                due.is("seed is what it was", x.seed(seed), second);
                x.throwsOf(3, -9, d, 40);
                int z = seed;
                for (int k = 0; k < 80; k++) {
                    z = next(z);
                }
                due.is("eighty draws from " + seed, x.count(5), z);
                due.is("all of forty", x.thrownAt(0) + x.thrownAt(9), 40);
            }
        }
        due.is("told at first", new ThreeMagnets().count(5), 1);
    }

    private static void throwsAreHeld() {
        int[][] corners = {{-100, -100}, {-100, 100}, {100, -100}, {100, 100}, {90, -60}};
        for (int[] at : corners) {
            for (int seed = 5; seed < 25; seed++) {
                int first = next(seed);
                int second = next(first);
                ThreeMagnets x = Worlds.dots(onPlate(at[0] + off(first, 50)), onPlate(at[1] + off(second, 50)));
                x.seed(seed);
                due.is("held at " + at[0] + " " + at[1] + " by " + seed, x.throwsOf(at[0], at[1], 50, 1), 1);
            }
        }
    }

    /** Forty throws end where bobs end that are let go at the same places. */
    private static void throwsByAll() {
        ThreeMagnets x = new ThreeMagnets();
        for (int m = 0; m < 6; m++) {
            x.magnet(0, 22 * m - 55, 9 * m - 20, 80);
        }
        x.rule(1, 40);
        x.rule(4, 9);
        int[] ends = new int[10];
        int z = 1;
        for (int k = 0; k < 40; k++) {
            z = next(z);
            int atX = onPlate(4 + off(z, 50));
            z = next(z);
            ends[x.ends(atX, onPlate(-3 + off(z, 50)), 0, 0)]++;
        }
        due.is("at magnets", x.throwsOf(4, -3, 50, 40), 40 - ends[9]);
        for (int colour : new int[] {0, 1, 2, 3, 4, 5, 9}) {
            due.is("thrown at " + colour, x.thrownAt(colour), ends[colour]);
        }
        due.isTrue("some end at magnets, some do not", ends[9] > 0 && ends[9] < 40);
        x.throwsOf(100, 100, 0, 1);
        due.is("the latest throws alone", x.thrownAt(0) + x.thrownAt(1) + x.thrownAt(2) + x.thrownAt(3)
                + x.thrownAt(4) + x.thrownAt(5) + x.thrownAt(9), 1);
    }

    private static void doubtAndLength() {
        ThreeMagnets x = Worlds.still();
        x.magnet(0, 5, 30, 0);
        Due.text(x, 0, "2");
        due.is("doubt", x.doubt(0, 30), 1);
        due.is("no doubt where it rests", x.doubt(1, 30), 0);
        due.is("no doubt the other way round", x.doubt(30, 0), 0);
        due.is("the rule stays", x.rule(5, 2), 1);
        due.is("no doubt of two by four", x.doubt(0, 30), 0);
        x.rule(3, 0);
        x.untell(0);
        due.is("let go with no speed", x.length(5, 30), 0);
        due.is("let go with no speed", x.ends(5, 30, 0, 0), 0);
        due.is("too fast", x.ends(5, 30, 1, 0), 9);
        due.is("no speed, no doubt", x.doubt(5, 30), 0);
        due.is("no speed, held", x.holds(0, 0), 4);
        due.is("too fast, not held", x.holds(0, 1), 0);
    }

    private static void holdsEachWay() {
        int[][] sides = {{95, 0, 1}, {-95, 0, 1}, {0, 95, 1}, {0, -95, 1}, {94, 0, 0}, {0, -94, 0}, {95, 95, 2}, {-95, -95, 2}, {95, -95, 2}};
        for (int[] at : sides) {
            ThreeMagnets x = Worlds.still();
            x.rule(4, 5);
            x.magnet(0, at[0], at[1], 0);
            due.is("held at " + at[0] + " " + at[1], x.holds(0, 30), at[2]);
            due.is("slow", x.holds(0, 8), 4);
            due.is("the greatest speed at " + at[0] + " " + at[1], x.holds(0, 999), at[2]);
            x.magnet(1, at[0], at[1], 0);
            due.is("of like ones the other", x.holds(1, 8), 0);
            x.shift(0, 6, at[0], at[1]);
            due.is("none rests at a pushing one", x.holds(0, 0), 0);
            due.is("then at the other", x.holds(1, 8), 4);
        }
    }

    private static int checked(ThreeMagnets x, int j, int... told) {
        for (int v : told) {
            x.tell(v);
        }
        int answer = x.check(j);
        due.is("none wait then", x.count(3), 0);
        return answer;
    }

    private static void rowsChecked() {
        ThreeMagnets x = Worlds.dots(0, 0, 5, 0, 2, 5);
        x.picture(0, 0, 66, 1);
        due.is("a row of six", checked(x, 0, 0, 9, 9, 9, 9, 1), 0);
        due.is("the last row", checked(x, 5, 9, 9, 2, 9, 9, 9), 0);
        due.is("no number waits, others did", checked(x, 5), 1);
        due.is("one lacks, that was told ahead", checked(x, 5, 9, 9, 2, 9, 9), 6);
        due.is("four lack", checked(x, 5, 9, 9), 3);
        due.is("one too many", checked(x, 5, 9, 9, 2, 9, 9, 9, 9), 7);
        due.is("the last is another", checked(x, 5, 9, 9, 2, 9, 9, 8), 6);
        due.is("the first is another", checked(x, 0, 1, 9, 9, 9, 9, 1), 1);
        due.is("an error's number is another", checked(x, 0, Due.NONE), 1);
        due.is("any number", checked(x, 0, 0, Integer.MIN_VALUE), 2);
        due.is("any number", checked(x, 0, 0, 9, Integer.MAX_VALUE), 3);
        for (int k = 0; k < 24; k++) {
            due.is("as many as wait", x.tell(k < 6 && k % 5 != 0 ? 9 : k / 5), k + 1);
        }
        due.is("no more", x.tell(9), Due.FULL);
        due.is("eighteen too many", x.check(0), 7);
        due.is("none wait then", x.count(3), 0);
        due.is("first of them", x.tell(0), 1);
    }
}
