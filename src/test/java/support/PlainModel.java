import java.util.ArrayList;
import java.util.HashMap;
import java.util.HashSet;
import java.util.List;
import java.util.Map;
import java.util.Set;

/** The document told anew for the tests, as plainly as it goes; its speed does not matter. */
public final class PlainModel {
    private PlainRun run = new PlainRun();
    private String tape = "";
    private int[][] colours = null;
    private int[][] lengths = null;
    private int[] frame = new int[5];
    private int[] thrown = null;
    private List<Integer> waits = new ArrayList<>();
    private int z = 1;

    private PlainModel kept = null;
    private int images = 0;
    private List<Integer> trace = new ArrayList<>();
    private final int[][] sheets = new int[4][];
    private final int[] bits = new int[4];
    private final Map<Integer, Integer> errors = new HashMap<>();

    private int error(int k) {
        errors.merge(k, 1, Integer::sum);
        return -1000000 - k;
    }

    private static boolean in(int v, int a, int b) {
        return a <= v && v <= b;
    }

    private static boolean place(int x, int y) {
        return in(x, -100, 100) && in(y, -100, 100);
    }

    private boolean known(int magnet) {
        return in(magnet, 0, run.magnets.size() - 1);
    }

    private int end(int x, int y, int u, int v) {
        return run.end(x, y, u, v, run.rules[5])[0];
    }

    public int magnet(int kind, int x, int y, int strength) {
        if (!in(kind, 0, 6) || !place(x, y) || !in(strength, 0, 99)) return error(1);
        if (run.magnets.size() == 6) return error(4);
        run.magnets.add(new int[] {kind, x, y, strength});
        return run.magnets.size() - 1;
    }

    public int magnetIs(int magnet, int what) {
        if (!known(magnet) || !in(what, 0, 5)) return error(1);
        int[] m = run.magnets.get(magnet);
        int far = PlainRun.far(m, run.bob);
        return what < 4 ? m[what] : what == 4 ? far : run.pull(m, m[0], far, run.bob[4]);
    }

    public int as(int magnet, int kind) {
        if (!known(magnet) || !in(kind, 0, 6)) return error(1);
        String[] are = {"0", "01", "02", "03", "014", "035", "026"};
        int[] m = run.magnets.get(magnet);
        return are[m[0]].indexOf('0' + kind) < 0 ? error(5) : m[3];
    }

    public int shift(int magnet, int kind, int x, int y) {
        if (!known(magnet) || !in(kind, 0, 6) || !place(x, y)) return error(1);
        int[] was = run.magnets.get(magnet);
        run.magnets.set(magnet, new int[] {kind, x, y, was[3]});
        return was[0];
    }

    public int takeOff() {
        if (run.magnets.isEmpty()) return error(2);
        run.magnets.remove(run.magnets.size() - 1);
        return run.magnets.size();
    }

    public int rule(int rule, int v) {
        if (!in(rule, 0, 5)) return error(1);
        if (rule == 2 ? !in(v, 1, 80) : rule == 5 ? !in(v, 1, 2) : !in(v, 0, 99)) return error(1);
        int was = run.rules[rule];
        run.rules[rule] = v;
        return was;
    }

    public int nearest(int x, int y, int what) {
        if (!place(x, y) || !in(what, 0, 1)) return error(1);
        int[] at = {16 * x, 16 * y};
        int near = run.nearest(at, false);
        return near < 0 ? error(2) : what == 0 ? near : PlainRun.far(run.magnets.get(near), at);
    }

    public int feed(long word, int n) {
        if (!in(n, 1, 8)) return error(1);
        if (tape.length() + n > 60) return error(4);
        for (int k = 0; k < n; k++) {
            tape += (char) (word & 255);
            word >>= 8;
        }
        return tape.length();
    }

    public int text(int use) {
        if (!in(use, 0, 2)) return error(1);
        String text = tape;
        tape = "";
        int fault = PlainText.fault(text, use == 0 ? "rsn" : use == 1 ? "vrn" : "clxye");
        if (fault >= 0) return -10 - fault;
        run.texts[use] = text;
        return 1;
    }

    public int untell(int use) {
        if (!in(use, 0, 2)) return error(1);
        int was = run.texts[use] == null ? 0 : 1;
        run.texts[use] = null;
        return was;
    }

    public int let(int x, int y) {
        if (!place(x, y)) return error(1);
        run.bob = new int[] {16 * x, 16 * y, 0, 0, 0};
        return 1;
    }

    public int push(int u, int v) {
        if (!in(u, -9999, 9999) || !in(v, -9999, 9999)) return error(1);
        run.bob[2] = u;
        run.bob[3] = v;
        return 1;
    }

    public int tick(int n) {
        if (!in(n, 1, 200)) return error(1);
        if (run.bob[4] + n > 9999) return error(3);
        for (int k = 0; k < n; k++) run.tick(run.bob, run.rules[5]);
        return run.bob[4];
    }

    public int bob(int what) {
        return !in(what, 0, 5) ? error(1) : what < 5 ? run.bob[what] : run.rest(run.bob);
    }

    public int ends(int x, int y, int u, int v) {
        return place(x, y) && in(u, -9999, 9999) && in(v, -9999, 9999) ? end(x, y, u, v) : error(1);
    }

    public int length(int x, int y) {
        return place(x, y) ? run.end(x, y, 0, 0, run.rules[5])[1] : error(1);
    }

    public int doubt(int x, int y) {
        if (!place(x, y)) return error(1);
        return end(x, y, 0, 0) != run.end(x, y, 0, 0, 2 * run.rules[5])[0] ? 1 : 0;
    }

    public int holds(int magnet, int v) {
        if (!known(magnet) || !in(v, 0, 999)) return error(1);
        int[] m = run.magnets.get(magnet);
        int[][] ways = {{v, 0}, {-v, 0}, {0, v}, {0, -v}};
        int held = 0;
        for (int[] way : ways) {
            if (end(m[1], m[2], way[0], way[1]) == magnet) held++;
        }
        return held;
    }

    public int picture(int x, int y, int wh, int step) {
        if (!place(x, y) || !in(wh, 11, 66) || !in(wh % 10, 1, 6) || !in(step, 1, 40)) return error(1);
        int w = wh / 10;
        int h = wh % 10;
        if (!place(x + step * (w - 1), y + step * (h - 1))) return error(1);
        frame = new int[] {x, y, w, h, step};
        colours = new int[w][h];
        lengths = new int[w][h];
        Set<Integer> seen = new HashSet<>();
        for (int i = 0; i < w; i++) {
            for (int j = 0; j < h; j++) {
                int[] end = run.end(x + i * step, y + j * step, 0, 0, run.rules[5]);
                colours[i][j] = end[0];
                lengths[i][j] = end[1];
                seen.add(end[0]);
            }
        }
        return seen.size();
    }

    private boolean cellIs(int i, int j) {
        return in(i, 0, frame[2] - 1) && in(j, 0, frame[3] - 1);
    }

    public int cell(int i, int j) {
        return colours == null ? error(2) : !cellIs(i, j) ? error(1) : colours[i][j];
    }

    private int cellsOf(int colour) {
        int cells = 0;
        for (int[] row : colours) {
            for (int one : row) cells += one == colour ? 1 : 0;
        }
        return cells;
    }

    public int share(int colour) {
        return !in(colour, 0, 5) && colour != 9 ? error(1) : colours == null ? error(2) : cellsOf(colour);
    }

    private boolean isEdge(int i, int j) {
        int[][] ways = {{1, 0}, {-1, 0}, {0, 1}, {0, -1}};
        for (int[] way : ways) {
            if (cellIs(i + way[0], j + way[1]) && colours[i + way[0]][j + way[1]] != colours[i][j]) return true;
        }
        return false;
    }

    public int edge(int i, int j) {
        return colours == null ? error(2) : !cellIs(i, j) ? error(1) : isEdge(i, j) ? 1 : 0;
    }

    public int seen(int what) {
        if (!in(what, 0, 3)) return error(1);
        if (colours == null) return error(2);
        int[] all = new int[4];
        for (int i = 0; i < frame[2]; i++) {
            for (int j = 0; j < frame[3]; j++) {
                all[0] += isEdge(i, j) ? 1 : 0;
                all[1] += cellIs(i + 1, j + 1) && Set.copyOf(List.of(colours[i][j], colours[i + 1][j],
                        colours[i][j + 1], colours[i + 1][j + 1])).size() >= 3 ? 1 : 0;
                all[2] += what == 2 && isEdge(i, j) ? finer(i, j) : 0;
                all[3] += lengths[i][j];
            }
        }
        return all[what];
    }

    private int finer(int i, int j) {
        int half = frame[4] / 2;
        int x = frame[0] + i * frame[4];
        int y = frame[1] + j * frame[4];
        int[][] places = {{x + half, y}, {x, y + half}, {x + half, y + half}};
        int others = 0;
        for (int[] at : places) {
            if (place(at[0], at[1]) && end(at[0], at[1], 0, 0) != colours[i][j]) others++;
        }
        return others;
    }

    public int sure(int colour, int d, int what) {
        if (!in(colour, 0, 5) && colour != 9 || !in(d, 0, 5) || !in(what, 0, 1)) return error(1);
        if (colours == null) return error(2);
        int[] best = {-1, -1};
        for (int j = 0; j < frame[3]; j++) {
            for (int i = 0; i < frame[2]; i++) {
                int cells = 0;
                for (int a = 0; a < frame[2]; a++) {
                    for (int b = 0; b < frame[3]; b++) {
                        cells += Math.abs(a - i) <= d && Math.abs(b - j) <= d && colours[a][b] == colour ? 1 : 0;
                    }
                }
                if (cells > best[1]) best = new int[] {10 * i + j, cells};
            }
        }
        return best[what];
    }

    public int turned(int k) {
        if (!in(k, 0, 3)) return error(1);
        if (colours == null) return error(2);
        if (frame[2] != frame[3]) return error(3);
        Map<Integer, Integer> there = new HashMap<>();
        Map<Integer, Integer> back = new HashMap<>();
        for (int i = 0; i < frame[2]; i++) {
            for (int j = 0; j < frame[2]; j++) {
                int a = i;
                int b = j;
                for (int q = 0; q < k; q++) {
                    int was = a;
                    a = frame[2] - 1 - b;
                    b = was;
                }
                Integer to = there.putIfAbsent(colours[i][j], colours[a][b]);
                Integer from = back.putIfAbsent(colours[a][b], colours[i][j]);
                if (to != null && to != colours[a][b] || from != null && from != colours[i][j]) return 0;
            }
        }
        return 1;
    }

    public int fair(int part) {
        if (!in(part, 0, 1)) return error(1);
        if (colours == null || run.magnets.isEmpty()) return error(2);
        int most = 0;
        int fewest = 99;
        for (int m = 0; m < run.magnets.size(); m++) {
            most = Math.max(most, cellsOf(m));
            fewest = Math.min(fewest, cellsOf(m));
        }
        int above = most - fewest;
        int below = frame[2] * frame[3];
        for (int k = 36; k > 1; k--) {
            if (above % k == 0 && below % k == 0) {
                above /= k;
                below /= k;
            }
        }
        return part == 0 ? above : below;
    }

    public int want(int what) {
        if (!in(what, 0, 1)) return error(1);
        if (colours == null) return error(2);
        long[] best = {0, Long.MIN_VALUE};
        for (int j = 0; j < frame[3]; j++) {
            for (int i = 0; i < frame[2]; i++) {
                int[] of = {colours[i][j], lengths[i][j], frame[0] + i * frame[4], frame[1] + j * frame[4], isEdge(i, j) ? 1 : 0};
                int want = run.texts[2] == null ? 0 : PlainText.value(run.texts[2], "clxye", of, 0);
                if (want > best[1]) best = new long[] {10 * i + j, want};
            }
        }
        return (int) best[what];
    }

    private int draw(int d) {
        z = (int) (z * 1103515245L + 12345);
        return (int) ((z & 0xffffffffL) / 256 % (2 * d + 1)) - d;
    }

    public int throwsOf(int x, int y, int d, int n) {
        if (!place(x, y) || !in(d, 0, 50) || !in(n, 1, 40)) return error(1);
        thrown = new int[10];
        for (int k = 0; k < n; k++) {
            int a = Math.min(100, Math.max(-100, x + draw(d)));
            int b = Math.min(100, Math.max(-100, y + draw(d)));
            thrown[end(a, b, 0, 0)]++;
        }
        return n - thrown[9];
    }

    public int thrownAt(int colour) {
        return !in(colour, 0, 5) && colour != 9 ? error(1) : thrown == null ? error(2) : thrown[colour];
    }

    public int seed(int v) {
        int was = z;
        z = v;
        return was;
    }

    public int voice(int magnet, int voice, int x) {
        if (!known(magnet) || !in(voice, 0, 3)) return error(1);
        int[] m = run.magnets.get(magnet);
        PlainVoices.Magnet speaker = PlainVoices.of(m[0], magnet, m[3]);
        try {
            int answer = speaker.speak(voice, x);
            trace = speaker.began;
            return answer;
        } catch (PlainVoices.Parted parted) {
            return error(6);
        }
    }

    public int body(int i) {
        return in(i, 0, trace.size() - 1) ? trace.get(i) : error(2);
    }

    public int sheet(int sheet, int width, int n) {
        if (!in(sheet, 0, 3) || !Set.of(0, 8, 16, 32).contains(width)) return error(1);
        if (width != 0 && n < 0) return error(3);
        if (width != 0 && n > 24) return error(1);
        bits[sheet] = width;
        sheets[sheet] = width == 0 ? null : new int[n];
        return 1;
    }

    public int put(int sheet, int i, int v) {
        if (!in(sheet, 0, 3)) return error(1);
        if (sheets[sheet] == null) return error(2);
        if (!in(i, 0, sheets[sheet].length - 1)) return error(1);
        int off = 32 - bits[sheet];
        sheets[sheet][i] = v << off >> off;
        return 1;
    }

    public int move(int sheet, int i, int other, int j, int n) {
        if (!in(sheet, 0, 3) || !in(other, 0, 3)) return error(1);
        if (sheets[sheet] == null || sheets[other] == null) return error(2);
        if (bits[sheet] != bits[other]) return error(5);
        if (n < 0 || i < 0 || j < 0 || (long) i + n > sheets[sheet].length || (long) j + n > sheets[other].length) return error(1);
        int[] were = sheets[sheet].clone();
        for (int k = 0; k < n; k++) sheets[other][j + k] = were[i + k];
        return n;
    }

    public int magnets(int sheet) {
        if (!in(sheet, 0, 3)) return error(1);
        if (sheets[sheet] == null) return error(2);
        int came = 0;
        Map<Integer, Integer> before = new HashMap<>(errors);
        for (int k = 0; k + 4 <= sheets[sheet].length; k += 4) {
            int[] row = sheets[sheet];
            if (magnet(row[k], row[k + 1], row[k + 2], row[k + 3]) < 0) break;
            came++;
        }
        errors.clear();
        errors.putAll(before);
        return came;
    }

    private void takeFrom(PlainModel other) {
        run = other.run.copy();
        tape = other.tape;
        colours = other.colours;
        lengths = other.lengths;
        frame = other.frame;
        thrown = other.thrown;
        waits = new ArrayList<>(other.waits);
        z = other.z;
    }

    public int image() {
        kept = new PlainModel();
        kept.takeFrom(this);
        return ++images;
    }

    public int restore() {
        if (kept == null) return error(2);
        takeFrom(kept);
        return run.magnets.size();
    }

    public int tell(int v) {
        if (waits.size() == 24) return error(4);
        waits.add(v);
        return waits.size();
    }

    public int check(int j) {
        List<Integer> told = waits;
        waits = new ArrayList<>();
        if (colours == null) return error(2);
        if (!in(j, 0, frame[3] - 1)) return error(1);
        List<Integer> row = new ArrayList<>();
        for (int i = 0; i < frame[2]; i++) row.add(colours[i][j]);
        for (int k = 0; k < Math.max(row.size(), told.size()); k++) {
            if (k >= row.size() || k >= told.size() || !row.get(k).equals(told.get(k))) return 1 + k;
        }
        return 0;
    }

    public int count(int what) {
        int cells = colours == null ? 0 : frame[2] * frame[3];
        int[] all = {run.magnets.size(), cells, tape.length(), waits.size(), trace.size(), z};
        return in(what, 0, 5) ? all[what] : error(1);
    }

    public int told(int k) {
        return in(k, 1, 6) ? errors.getOrDefault(k, 0) : error(1);
    }
}
