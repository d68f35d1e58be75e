import java.util.Arrays;
import java.util.Random;

/**
 * Pictures of many colours, painted by bobs that stay where they are let go: all that is told of a picture beside what its
 * cells say, as cell() tells them.
 */
public final class PaintedTest {
    private static final int[] COLOURS = {0, 1, 2, 3, 4, 5, 9};
    private static final Due due = new Due();

    private final String what;
    private final ThreeMagnets x;
    private final int w;
    private final int h;
    private final int[][] cells;

    private PaintedTest(String what, ThreeMagnets x, int w, int h) {
        this.what = what;
        this.x = x;
        this.w = w;
        this.h = h;
        cells = new int[w][h];
        for (int i = 0; i < w; i++) {
            for (int j = 0; j < h; j++) {
                cells[i][j] = x.cell(i, j);
            }
        }
    }

    public static void main(String[] args) {
        squaresOfTwo();
        drawn();
        due.end("PaintedTest");
    }

    /** Each way in which magnets stand at the cells of a square, and which of them is the first. */
    private static void squaresOfTwo() {
        for (int ways = 0; ways < 256; ways++) {
            ThreeMagnets x = Worlds.dots();
            for (int k = 0; k < 4; k++) {
                int cell = (k + (ways >> 4)) % 4;
                if ((ways >> cell & 1) != 0) {
                    x.magnet(0, cell % 2, cell / 2, 0);
                }
            }
            x.picture(0, 0, 22, 1);
            new PaintedTest("square " + ways, x, 2, 2).lookAtAll();
        }
    }

    private static void drawn() {
        Random random = new Random(8);
        for (int run = 0; run < 3000 && due.wrong() < 20; run++) {
            ThreeMagnets x = Worlds.still();
            int w = 1 + random.nextInt(6);
            int h = random.nextInt(3) == 0 ? 1 + random.nextInt(6) : w;
            int step = 1 + random.nextInt(3);
            x.rule(4, random.nextInt(4) * step);
            for (int m = random.nextInt(7); m > 0; m--) {
                int i = random.nextInt(w);
                int j = random.nextInt(h);
                x.magnet(0, i * step, j * step, 0);
                if (random.nextBoolean()) {
                    // The cell to which that one comes by two quarters: so that some pictures are alike turned.
                    x.magnet(0, (w - 1 - i) * step, (h - 1 - j) * step, 0);
                }
            }
            x.picture(0, 0, 10 * w + h, step);
            new PaintedTest("run " + run, x, w, h).lookAtAll();
        }
    }

    private void lookAtAll() {
        int[] shares = new int[10];
        int edges = 0;
        for (int i = 0; i < w; i++) {
            for (int j = 0; j < h; j++) {
                shares[cells[i][j]]++;
                int edge = isEdge(i, j) ? 1 : 0;
                due.is(what + ", edge " + i + " " + j, x.edge(i, j), edge);
                edges += edge;
            }
        }
        for (int colour : COLOURS) {
            due.is(what + ", share " + colour, x.share(colour), shares[colour]);
        }
        due.is(what + ", edges", x.seen(0), edges);
        due.is(what + ", threes", x.seen(1), threes());
        due.is(what + ", cells", x.count(1), w * h);
        lookAtFair(shares);
        lookAtSure();
        lookAtTurned();
        lookAtRows();
    }

    private boolean isEdge(int i, int j) {
        return i > 0 && cells[i - 1][j] != cells[i][j] || i < w - 1 && cells[i + 1][j] != cells[i][j]
                || j > 0 && cells[i][j - 1] != cells[i][j] || j < h - 1 && cells[i][j + 1] != cells[i][j];
    }

    private int threes() {
        int threes = 0;
        for (int i = 1; i < w; i++) {
            for (int j = 1; j < h; j++) {
                int[] four = {cells[i - 1][j - 1], cells[i][j - 1], cells[i - 1][j], cells[i][j]};
                threes += Arrays.stream(four).distinct().count() >= 3 ? 1 : 0;
            }
        }
        return threes;
    }

    private void lookAtFair(int[] shares) {
        int magnets = x.count(0);
        if (magnets == 0) {
            due.is(what + ", fair", x.fair(0), Due.NONE);
            return;
        }
        int[] of = Arrays.copyOf(shares, magnets);
        int above = Arrays.stream(of).max().getAsInt() - Arrays.stream(of).min().getAsInt();
        due.is(what + ", fair", (long) x.fair(0) * w * h, (long) x.fair(1) * above);
        for (int by = 2; by <= 36; by++) {
            due.isTrue(what + ", in lowest terms", x.fair(0) % by != 0 || x.fair(1) % by != 0);
        }
    }

    private void lookAtSure() {
        for (int colour : COLOURS) {
            for (int d = 0; d <= 5; d++) {
                int where = 0;
                int most = -1;
                for (int k = 0; k < w * h; k++) {
                    int around = around(k % w, k / w, d, colour);
                    where = around > most ? 10 * (k % w) + k / w : where;
                    most = Math.max(most, around);
                }
                due.is(what + ", sure of " + colour + " by " + d, x.sure(colour, d, 0), where);
                due.is(what + ", how sure of " + colour + " by " + d, x.sure(colour, d, 1), most);
            }
        }
    }

    private int around(int i, int j, int d, int colour) {
        int around = 0;
        for (int a = Math.max(0, i - d); a < Math.min(w, i + d + 1); a++) {
            for (int b = Math.max(0, j - d); b < Math.min(h, j + d + 1); b++) {
                around += cells[a][b] == colour ? 1 : 0;
            }
        }
        return around;
    }

    private void lookAtTurned() {
        int[][] at = cells;
        for (int k = 0; k <= 3; k++) {
            due.is(what + ", turned by " + k, x.turned(k), w != h ? Due.STATE : isOneToOne(at) ? 1 : 0);
            at = w == h ? broughtFrom(at) : at;
        }
    }

    /** The colour to which each cell comes by one quarter more than in these. */
    private int[][] broughtFrom(int[][] comes) {
        int[][] further = new int[w][w];
        for (int i = 0; i < w; i++) {
            for (int j = 0; j < w; j++) {
                further[i][j] = comes[w - 1 - j][i];
            }
        }
        return further;
    }

    private boolean isOneToOne(int[][] comes) {
        int[] to = new int[10];
        int[] from = new int[10];
        Arrays.fill(to, -1);
        Arrays.fill(from, -1);
        boolean good = true;
        for (int i = 0; i < w; i++) {
            for (int j = 0; j < h; j++) {
                int a = cells[i][j];
                int b = comes[i][j];
                good &= (to[a] < 0 || to[a] == b) && (from[b] < 0 || from[b] == a);
                to[a] = b;
                from[b] = a;
            }
        }
        return good;
    }

    private void lookAtRows() {
        for (int j = 0; j < h; j++) {
            for (int i = 0; i < w; i++) {
                x.tell(cells[i][j]);
            }
            due.is(what + ", row " + j, x.check(j), 0);
            due.is(what + ", none wait", x.count(3), 0);
        }
    }
}
