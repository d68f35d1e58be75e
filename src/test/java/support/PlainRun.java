import java.util.ArrayList;
import java.util.List;

/** PULL, TICKS and where a BOB ENDS, told anew for the tests, word by word. */
public final class PlainRun {
    public final List<int[]> magnets = new ArrayList<>();
    public final int[] rules = {5, 10, 60, 8, 4, 1};
    public final String[] texts = new String[3];
    public int[] bob = new int[5];

    public PlainRun copy() {
        PlainRun other = new PlainRun();
        for (int[] magnet : magnets) {
            other.magnets.add(magnet.clone());
        }
        System.arraycopy(rules, 0, other.rules, 0, 6);
        System.arraycopy(texts, 0, other.texts, 0, 3);
        other.bob = bob.clone();
        return other;
    }

    public static int far(int[] magnet, int[] at) {
        return (Math.abs(16 * magnet[1] - at[0]) + Math.abs(16 * magnet[2] - at[1])) / 16;
    }

    public int nearest(int[] at, boolean toRest) {
        int best = -1;
        for (int m = 0; m < magnets.size(); m++) {
            int kind = magnets.get(m)[0];
            if (!(toRest && (kind == 2 || kind == 6)) && (best < 0 || far(magnets.get(m), at) < far(magnets.get(best), at))) {
                best = m;
            }
        }
        return best;
    }

    /** The PULL of a magnet, were it of that kind. */
    public int pull(int[] magnet, int kind, int far, int ticks) {
        switch (kind) {
            case 1: return pull(magnet, 0, far, ticks) / 2;
            case 2: return -pull(magnet, 0, far, ticks);
            case 3: return ticks % 2 == 0 ? pull(magnet, 0, far, ticks) : 0;
            case 4: return far <= 20 ? pull(magnet, 1, far, ticks) : 0;
            case 5: return Math.max(0, pull(magnet, 3, far, ticks) - 3);
            case 6: return 2 * pull(magnet, 2, far, ticks);
            default:
        }
        if (texts[0] == null) {
            return magnet[3] * 9 / (far + 3);
        }
        int given = PlainText.value(texts[0], "rsn", new int[] {far, magnet[3], ticks}, 0);
        return Math.max(-999, Math.min(999, given));
    }

    public void tick(int[] b, int f) {
        int[] from = b.clone();
        for (int[] magnet : magnets) {
            int far = far(magnet, from);
            int pull = pull(magnet, magnet[0], far, from[4]);
            for (int side = 0; side < 2; side++) {
                b[2 + side] += (16 * magnet[1 + side] - from[side]) * pull / (16 * (far + 1)) / f;
            }
        }
        for (int side = 0; side < 2; side++) {
            b[2 + side] -= from[side] * rules[0] / 1600 / f;
        }
        int rub = rules[1];
        if (texts[1] != null) {
            int near = nearest(from, false);
            int[] of = {Math.abs(b[2]) + Math.abs(b[3]), near < 0 ? 999 : far(magnets.get(near), from), from[4]};
            rub = Math.max(0, Math.min(99, PlainText.value(texts[1], "vrn", of, 0)));
        }
        for (int side = 0; side < 2; side++) {
            b[2 + side] -= b[2 + side] * rub / 100 / f;
            b[side] += b[2 + side] / f;
            if (Math.abs(b[side]) > 1600) {
                b[side] = b[side] > 0 ? 1600 : -1600;
                b[2 + side] = 0;
            }
        }
        b[4]++;
    }

    public int rest(int[] b) {
        int near = nearest(b, true);
        boolean quiet = Math.abs(b[2]) + Math.abs(b[3]) <= rules[3];
        return quiet && near >= 0 && far(magnets.get(near), b) <= rules[4] ? near : 9;
    }

    /** Where it ends, and its length. */
    public int[] end(int x, int y, int u, int v, int f) {
        int[] b = {16 * x, 16 * y, u, v, 0};
        while (rest(b) == 9 && b[4] < rules[2] * f) {
            tick(b, f);
        }
        return new int[] {rest(b), b[4]};
    }
}
