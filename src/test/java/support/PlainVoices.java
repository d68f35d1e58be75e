import java.util.ArrayList;
import java.util.List;

/** VOICES told anew for the tests: by classes that stand under one another as the KINDS do. */
public final class PlainVoices {
    public static final class Parted extends RuntimeException {
        private static final long serialVersionUID = 1L;
    }

    private PlainVoices() {
    }

    public static Magnet of(int kind, int n, int s) {
        Magnet[] kinds = {new Magnet(), new Weak(), new Pushing(), new Blinking(), new Faint(), new Shy(), new Doubled()};
        kinds[kind].n = n;
        kinds[kind].s = s;
        return kinds[kind];
    }

    public static class Magnet {
        public final List<Integer> began = new ArrayList<>();
        int n;
        int s;

        public int speak(int voice, int x) {
            return voice == 0 ? pulls(x) : voice == 1 ? rests(x) : voice == 2 ? parts(x) : tells(x);
        }

        int pulls(int x) {
            began.add(10);
            return x + s;
        }

        int rests(int x) {
            began.add(11);
            return pulls(x) * 2;
        }

        int parts(int x) {
            began.add(12);
            return rests(x) - n;
        }

        int tells(int x) {
            began.add(13);
            if (s == n) {
                throw new Parted();
            }
            return x / (s - n);
        }
    }

    static class Weak extends Magnet {
        @Override
        int pulls(int x) {
            began.add(20);
            return super.pulls(x) - 1;
        }

        @Override
        int parts(int x) {
            began.add(21);
            return super.parts(x) ^ s;
        }
    }

    static class Pushing extends Magnet {
        @Override
        int rests(int x) {
            began.add(30);
            return 0 - super.rests(x);
        }

        @Override
        int tells(int x) {
            began.add(31);
            return super.tells(x) + pulls(1);
        }
    }

    static class Blinking extends Magnet {
        @Override
        int parts(int x) {
            began.add(40);
            return super.parts(x + 2);
        }
    }

    static final class Faint extends Weak {
        @Override
        int pulls(int x) {
            began.add(50);
            return super.pulls(x / 2);
        }

        @Override
        int tells(int x) {
            began.add(51);
            return super.tells(x) - parts(0);
        }
    }

    static final class Shy extends Blinking {
        @Override
        int parts(int x) {
            began.add(60);
            return super.parts(x) * 3;
        }

        @Override
        int rests(int x) {
            began.add(61);
            return super.rests(x) + n;
        }
    }

    static final class Doubled extends Pushing {
        @Override
        int rests(int x) {
            began.add(70);
            return super.rests(x) * 2;
        }

        @Override
        int pulls(int x) {
            began.add(71);
            return 5;
        }
    }
}
