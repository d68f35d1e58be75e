/** Objects in which a bob's way can be told by hand, and such that hold something of everything. */
public final class Worlds {
    private Worlds() {
    }

    /** Nothing pulls back or rubs: a bob goes on as it is pushed. */
    public static ThreeMagnets still() {
        ThreeMagnets x = new ThreeMagnets();
        x.rule(0, 0);
        x.rule(1, 0);
        return x;
    }

    /** As still, and a bob let go with no speed stays: it ends at a magnet of strength 0 that stands just there. */
    public static ThreeMagnets dots(int... places) {
        ThreeMagnets x = still();
        x.rule(4, 0);
        for (int k = 0; k + 1 < places.length; k += 2) {
            x.magnet(0, places[k], places[k + 1], 0);
        }
        return x;
    }

    /** Something of everything: what a refused call might spoil shows. */
    public static ThreeMagnets rich() {
        ThreeMagnets x = new ThreeMagnets();
        x.magnet(0, -20, 3, 50);
        x.magnet(5, 20, 5, 70);
        x.seed(40);
        x.image();
        x.magnet(4, 0, -15, 33);
        x.rule(1, 11);
        x.rule(2, 44);
        Due.text(x, 0, "s*8/(r+2)+n%3");
        Due.text(x, 1, "v/9+r%7");
        Due.text(x, 2, "l-c*2+x*3-y+e");
        x.let(3, -4);
        x.push(50, -40);
        x.tick(3);
        x.picture(-30, -20, 43, 15);
        x.throwsOf(-5, 5, 30, 20);
        x.seed(31);
        x.feed(Due.word("x*y-l"), 5);
        x.tell(x.cell(0, 0));
        x.tell(x.cell(1, 0));
        sheets(x);
        x.voice(2, 2, 5);
        x.tick(201);
        x.takeOff();
        x.magnet(4, 0, -15, 33);
        return x;
    }

    private static void sheets(ThreeMagnets x) {
        x.sheet(0, 8, 8);
        x.sheet(1, 16, 8);
        x.sheet(2, 16, 4);
        for (int i = 0; i < 8; i++) {
            x.put(0, i, i % 5);
            x.put(1, i, i % 4 + 1);
            x.put(2, i, 6 - i);
        }
    }

    /** No more comes anywhere. */
    public static ThreeMagnets full() {
        ThreeMagnets x = rich();
        for (int m = 3; m < 6; m++) {
            x.magnet(1, 10, m, 20);
        }
        Due.feed(x, "9999".repeat(13) + "999");
        for (int k = 2; k < 24; k++) {
            x.tell(9);
        }
        x.let(1, 1);
        for (int k = 0; k < 49; k++) {
            x.tick(200);
        }
        x.tick(198);
        return x;
    }

    /** A magnet and a bob, but no picture, throws, texts, sheets, image. */
    public static ThreeMagnets bare() {
        ThreeMagnets x = new ThreeMagnets();
        x.magnet(1, 5, 6, 7);
        x.tell(3);
        x.feed('7', 1);
        return x;
    }
}
