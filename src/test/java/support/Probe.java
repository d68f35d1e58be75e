import java.util.ArrayList;
import java.util.List;

/** All that an object tells of its state, by some 300 calls that ask for it; the last ones use it up. */
public final class Probe {
    private final ThreeMagnets x;
    private final List<String> calls = new ArrayList<>();
    private final List<Integer> answers = new ArrayList<>();

    private Probe(ThreeMagnets x) {
        this.x = x;
    }

    /** Asks two objects alike, and prints where they differ. */
    public static void same(Due due, String what, ThreeMagnets one, ThreeMagnets other) {
        Probe a = of(one);
        Probe b = of(other);
        for (int k = 0; k < a.calls.size(); k++) {
            due.is(what + ": then " + a.calls.get(k), a.answers.get(k), b.answers.get(k));
        }
    }

    private static Probe of(ThreeMagnets x) {
        Probe probe = new Probe(x);
        probe.counts();
        probe.plate();
        probe.bob();
        probe.picture();
        probe.waitsAndTape();
        probe.image();
        probe.sheets();
        return probe;
    }

    private void is(String call, int answer) {
        calls.add(call);
        answers.add(answer);
    }

    private void counts() {
        for (int what = 0; what < 6; what++) {
            is("count " + what, x.count(what));
        }
        for (int i = 0; i < 7; i++) {
            is("body " + i, x.body(i));
        }
        for (int colour = 0; colour < 6; colour++) {
            is("thrownAt " + colour, x.thrownAt(colour));
        }
        is("thrownAt 9", x.thrownAt(9));
    }

    private void plate() {
        for (int m = 0; m < 6; m++) {
            for (int what = 0; what < 6; what++) {
                is("magnetIs " + m + " " + what, x.magnetIs(m, what));
            }
        }
        for (int rule = 0; rule < 6; rule++) {
            int was = x.rule(rule, 1);
            is("rule " + rule, was);
            x.rule(rule, was);
        }
    }

    private void bob() {
        for (int what = 0; what < 6; what++) {
            is("bob " + what, x.bob(what));
        }
        is("ends", x.ends(7, -9, 30, 20));
        is("tick", x.tick(1));
        for (int what = 0; what < 4; what++) {
            is("bob " + what + " behind a tick", x.bob(what));
        }
    }

    private void picture() {
        for (int what = 0; what < 4; what++) {
            is("seen " + what, x.seen(what));
        }
        is("want 0", x.want(0));
        is("want 1", x.want(1));
        is("fair 0", x.fair(0));
        is("fair 1", x.fair(1));
        is("turned 1", x.turned(1));
        for (int j = 0; j < 5; j++) {
            for (int i = 0; i < 5; i++) {
                is("cell " + i + " " + j, x.cell(i, j));
            }
        }
    }

    /** The numbers that wait are told one by one: each check says how far they are the row's colours. */
    private void waitsAndTape() {
        is("check 0", x.check(0));
        is("count 3", x.count(3));
        is("text 2", x.text(2));
        is("want 0 by the tape", x.want(0));
        is("want 1 by the tape", x.want(1));
        for (int use = 0; use < 3; use++) {
            is("untell " + use, x.untell(use));
        }
    }

    /** What an image keeps shows by itself. */
    private void image() {
        is("restore", x.restore());
        is("count 5 as kept", x.count(5));
        is("magnetIs 0 1 as kept", x.magnetIs(0, 1));
        is("bob 0 as kept", x.bob(0));
        is("image", x.image());
    }

    /** Sheets tell their numbers as magnets, as far as these can be magnets. */
    private void sheets() {
        for (int sheet = 0; sheet < 4; sheet++) {
            for (int k = x.count(0); k > 0; k--) {
                x.takeOff();
            }
            is("magnets " + sheet, x.magnets(sheet));
            for (int m = 0; m < 6; m++) {
                for (int what = 0; what < 4; what++) {
                    is("sheet " + sheet + " magnet " + m + " " + what, x.magnetIs(m, what));
                }
            }
            is("put at 7 of " + sheet, x.put(sheet, 7, 0));
            is("put at 8 of " + sheet, x.put(sheet, 8, 0));
        }
    }
}
