/** Objects in which a bob's way can be told by hand. */
public final class Worlds {
    private Worlds() {
    }

    /** Nothing pulls back or rubs: a bob goes on as it is pushed. */
    public static ThreeMagnets still() {
        ThreeMagnets x = new ThreeMagnets();
        x.rule(0, 0);
        x.rule(1, 0);
        return x;
    }

    /** As still, and a bob let go with no speed stays: it ends at a magnet of strength 0 that stands just there. */
    public static ThreeMagnets dots(int... places) {
        ThreeMagnets x = still();
        x.rule(4, 0);
        for (int k = 0; k + 1 < places.length; k += 2) {
            x.magnet(0, places[k], places[k + 1], 0);
        }
        return x;
    }
}
