/** A bob on a thread above a plate with magnets: ../shared/DOC.md says what each call answers. */
public final class ThreeMagnets {
    private static final int LOW = -1000000;
    private static final int BEYOND = 1;
    private static final int NONE = 2;
    private static final int STATE = 3;
    private static final int FULL = 4;
    private static final int UNLIKE_KIND = 5;
    private static final int PARTED = 6;
    private static final int ERRORS = 6;

    private static final int MOST_MAGNETS = 6;
    private static final int MOST_STRENGTH = 99;
    private static final int KINDS = 7;
    private static final int WEAK = 1;
    private static final int PUSHING = 2;
    private static final int BLINKING = 3;
    private static final int FAINT = 4;
    private static final int SHY = 5;
    private static final int DOUBLE = 6;
    /** The KIND above each KIND; -1 where there is none. */
    private static final int[] ABOVE = {-1, 0, 0, 0, 1, 3, 2};

    private static final int PLATE_END = 100;
    private static final int PARTS = 16;
    private static final int BOB_END = PLATE_END * PARTS;
    private static final int MOST_SPEED = 9999;
    private static final int MOST_TICKS = 9999;
    private static final int MOST_TICKS_AT_ONCE = 200;
    private static final int MOST_HOLD_SPEED = 999;
    private static final int FAINT_REACH = 20;
    private static final int NO_MAGNET_FAR = 999;
    private static final int BLIND = 9;
    private static final int COLOURS = 10;

    private static final int GRAVITY = 0;
    private static final int RUB = 1;
    private static final int LIMIT = 2;
    private static final int QUIET = 3;
    private static final int NEAR = 4;
    private static final int FINE = 5;
    private static final int RULES = 6;
    private static final int[] RULE_LEAST = {0, 0, 1, 0, 0, 1};
    private static final int[] RULE_MOST = {99, 99, 80, 99, 99, 2};
    private static final int[] RULE_FIRST = {5, 10, 60, 8, 4, 1};

    private static final int USES = 3;
    private static final int PULLING = 0;
    private static final int RUBBING = 1;
    private static final int MOST_NAMES = 5;
    private static final int MOST_PULL = 999;
    private static final int MOST_RUB = 99;
    private static final int MOST_BYTES = 60;
    private static final int MOST_OPEN = 5;
    private static final int MOST_DIGITS = 4;
    private static final int AT_A_NUMBER = 0;
    private static final int AT_A_NAME = 1;
    private static final int COMPARING = 2;
    private static final int LEVELS = 5;

    private static final int MOST_CELLS_A_SIDE = 6;
    private static final int MOST_CELLS = 36;
    private static final int MOST_STEP = 40;
    private static final int MOST_OFF = 5;
    private static final int MOST_THROWS = 40;
    private static final int MOST_WANDER = 50;

    private static final int PULLS = 0;
    private static final int RESTS = 1;
    private static final int PARTING = 2;
    private static final int TELLS = 3;
    private static final int VOICES = 4;
    /** KIND by KIND: the BODY of pulls, rests, parts, tells; 0 where the KIND has none. */
    private static final int[] BODIES = {
        10, 11, 12, 13,
        20, 0, 21, 0,
        0, 30, 0, 31,
        0, 0, 40, 0,
        50, 0, 0, 51,
        0, 61, 60, 0,
        71, 70, 0, 0,
    };
    private static final int MOST_TRACE = 30;
    private static final int DEEPEST_VOICE = 30;

    private static final int SHEETS = 4;
    private static final int MOST_NUMBERS = 24;
    private static final int MOST_WAITING = 24;
    private static final int A_MAGNETS_NUMBERS = 4;

    private final State now;
    private final State kept;
    private final Runner runner;
    private final Reader reader;
    private final Voices voices;
    private final Sheets sheets;
    private final int[] errors;
    private int images;

    public ThreeMagnets() {
        State state = new State();
        now = state;
        kept = new State();
        runner = new Runner(state);
        reader = new Reader(state.tape);
        voices = new Voices();
        sheets = new Sheets();
        errors = new int[ERRORS + 1];
        images = 0;
    }

    // ---- magnets, rules

    public int magnet(int kind, int x, int y, int strength) {
        if (!isMagnet(kind, x, y, strength)) {
            return refuse(BEYOND);
        }
        if (now.plate.isFull()) {
            return refuse(FULL);
        }
        return now.plate.add(kind, x, y, strength);
    }

    public int magnetIs(int magnet, int what) {
        Plate plate = now.plate;
        if (!plate.has(magnet) || !within(what, 0, 5)) {
            return refuse(BEYOND);
        }
        int far = plate.far(magnet, now.bob.x, now.bob.y);
        switch (what) {
            case 0:
                return plate.kinds[magnet];
            case 1:
                return plate.xs[magnet];
            case 2:
                return plate.ys[magnet];
            case 3:
                return plate.strengths[magnet];
            case 4:
                return far;
            default:
                return runner.pullOf(magnet, far, now.bob.ticks);
        }
    }

    public int as(int magnet, int kind) {
        if (!now.plate.has(magnet) || !isKind(kind)) {
            return refuse(BEYOND);
        }
        if (!isUnder(now.plate.kinds[magnet], kind)) {
            return refuse(UNLIKE_KIND);
        }
        return now.plate.strengths[magnet];
    }

    public int shift(int magnet, int kind, int x, int y) {
        Plate plate = now.plate;
        if (!plate.has(magnet) || !isKind(kind) || !isPlace(x, y)) {
            return refuse(BEYOND);
        }
        int was = plate.kinds[magnet];
        plate.kinds[magnet] = kind;
        plate.xs[magnet] = x;
        plate.ys[magnet] = y;
        return was;
    }

    public int takeOff() {
        if (now.plate.count <= 0) {
            return refuse(NONE);
        }
        now.plate.count--;
        return now.plate.count;
    }

    public int rule(int rule, int v) {
        if (!within(rule, 0, RULES - 1) || !within(v, RULE_LEAST[rule], RULE_MOST[rule])) {
            return refuse(BEYOND);
        }
        int was = now.rules[rule];
        now.rules[rule] = v;
        return was;
    }

    public int nearest(int x, int y, int what) {
        if (!isPlace(x, y) || !within(what, 0, 1)) {
            return refuse(BEYOND);
        }
        int magnet = now.plate.nearestTo(x * PARTS, y * PARTS, false);
        if (magnet < 0) {
            return refuse(NONE);
        }
        return what == 0 ? magnet : now.plate.far(magnet, x * PARTS, y * PARTS);
    }

    // ---- texts

    public int feed(long word, int n) {
        if (!within(n, 1, 8)) {
            return refuse(BEYOND);
        }
        Tape tape = now.tape;
        if (tape.size + n > MOST_BYTES) {
            return refuse(FULL);
        }
        for (int k = 0; k < n; k++) {
            tape.bytes[tape.size] = (int) (word >>> (8 * k)) & 255;
            tape.size++;
        }
        return tape.size;
    }

    public int text(int use) {
        if (!isUse(use)) {
            return refuse(BEYOND);
        }
        int fault = reader.faultFor(namesOf(use));
        now.tape.size = 0;
        if (fault >= 0) {
            return -10 - fault;
        }
        now.textOf(use).takeFrom(reader.draft);
        return 1;
    }

    public int untell(int use) {
        if (!isUse(use)) {
            return refuse(BEYOND);
        }
        Text text = now.textOf(use);
        int was = text.size > 0 ? 1 : 0;
        text.size = 0;
        return was;
    }

    // ---- the bob

    public int let(int x, int y) {
        if (!isPlace(x, y)) {
            return refuse(BEYOND);
        }
        now.bob.letGo(x, y, 0, 0);
        return 1;
    }

    public int push(int u, int v) {
        if (!isSpeed(u) || !isSpeed(v)) {
            return refuse(BEYOND);
        }
        now.bob.u = u;
        now.bob.v = v;
        return 1;
    }

    public int tick(int n) {
        if (!within(n, 1, MOST_TICKS_AT_ONCE)) {
            return refuse(BEYOND);
        }
        if (now.bob.ticks + n > MOST_TICKS) {
            return refuse(STATE);
        }
        for (int k = 0; k < n; k++) {
            runner.step(now.bob, now.rules[FINE]);
        }
        return now.bob.ticks;
    }

    public int bob(int what) {
        switch (what) {
            case 0:
                return now.bob.x;
            case 1:
                return now.bob.y;
            case 2:
                return now.bob.u;
            case 3:
                return now.bob.v;
            case 4:
                return now.bob.ticks;
            case 5:
                return runner.restOf(now.bob);
            default:
                return refuse(BEYOND);
        }
    }

    public int ends(int x, int y, int u, int v) {
        if (!isPlace(x, y) || !isSpeed(u) || !isSpeed(v)) {
            return refuse(BEYOND);
        }
        return runner.endOf(x, y, u, v, now.rules[FINE]);
    }

    public int length(int x, int y) {
        if (!isPlace(x, y)) {
            return refuse(BEYOND);
        }
        runner.endOf(x, y, 0, 0, now.rules[FINE]);
        return runner.trial.ticks;
    }

    public int doubt(int x, int y) {
        if (!isPlace(x, y)) {
            return refuse(BEYOND);
        }
        int fine = now.rules[FINE];
        int end = runner.endOf(x, y, 0, 0, fine);
        return end == runner.endOf(x, y, 0, 0, 2 * fine) ? 0 : 1;
    }

    public int holds(int magnet, int v) {
        if (!now.plate.has(magnet) || !within(v, 0, MOST_HOLD_SPEED)) {
            return refuse(BEYOND);
        }
        int x = now.plate.xs[magnet];
        int y = now.plate.ys[magnet];
        int fine = now.rules[FINE];
        int held = runner.endOf(x, y, v, 0, fine) == magnet ? 1 : 0;
        held += runner.endOf(x, y, -v, 0, fine) == magnet ? 1 : 0;
        held += runner.endOf(x, y, 0, v, fine) == magnet ? 1 : 0;
        held += runner.endOf(x, y, 0, -v, fine) == magnet ? 1 : 0;
        return held;
    }

    // ---- pictures

    public int picture(int x, int y, int wh, int step) {
        int w = wh / 10;
        int h = wh % 10;
        if (!isPlace(x, y) || !within(step, 1, MOST_STEP)
                || !within(w, 1, MOST_CELLS_A_SIDE) || !within(h, 1, MOST_CELLS_A_SIDE)
                || !isPlace(x + (w - 1) * step, y + (h - 1) * step)) {
            return refuse(BEYOND);
        }
        Picture picture = now.picture;
        picture.frame(x, y, w, h, step);
        for (int j = 0; j < h; j++) {
            for (int i = 0; i < w; i++) {
                int end = runner.endOf(x + i * step, y + j * step, 0, 0, now.rules[FINE]);
                picture.paint(i, j, end, runner.trial.ticks);
            }
        }
        return picture.colours();
    }

    public int cell(int i, int j) {
        if (!now.picture.isThere()) {
            return refuse(NONE);
        }
        if (!now.picture.has(i, j)) {
            return refuse(BEYOND);
        }
        return now.picture.colourAt(i, j);
    }

    public int share(int colour) {
        if (!isColour(colour)) {
            return refuse(BEYOND);
        }
        if (!now.picture.isThere()) {
            return refuse(NONE);
        }
        return now.picture.cellsOf(colour);
    }

    public int edge(int i, int j) {
        if (!now.picture.isThere()) {
            return refuse(NONE);
        }
        if (!now.picture.has(i, j)) {
            return refuse(BEYOND);
        }
        return now.picture.isEdge(i, j) ? 1 : 0;
    }

    public int seen(int what) {
        if (!within(what, 0, 3)) {
            return refuse(BEYOND);
        }
        if (!now.picture.isThere()) {
            return refuse(NONE);
        }
        switch (what) {
            case 0:
                return now.picture.edges();
            case 1:
                return now.picture.threes();
            case 2:
                return finer();
            default:
                return now.picture.lengths();
        }
    }

    public int sure(int colour, int d, int what) {
        if (!isColour(colour) || !within(d, 0, MOST_OFF) || !within(what, 0, 1)) {
            return refuse(BEYOND);
        }
        Picture picture = now.picture;
        if (!picture.isThere()) {
            return refuse(NONE);
        }
        int best = -1;
        int where = 0;
        for (int j = 0; j < picture.h; j++) {
            for (int i = 0; i < picture.w; i++) {
                int cells = picture.cellsAround(i, j, d, colour);
                if (cells > best) {
                    best = cells;
                    where = 10 * i + j;
                }
            }
        }
        return what == 0 ? where : best;
    }

    public int turned(int k) {
        if (!within(k, 0, 3)) {
            return refuse(BEYOND);
        }
        if (!now.picture.isThere()) {
            return refuse(NONE);
        }
        if (now.picture.w != now.picture.h) {
            return refuse(STATE);
        }
        return now.picture.isAlikeTurned(k) ? 1 : 0;
    }

    public int fair(int part) {
        if (!within(part, 0, 1)) {
            return refuse(BEYOND);
        }
        if (!now.picture.isThere() || now.plate.count <= 0) {
            return refuse(NONE);
        }
        int most = 0;
        int fewest = MOST_CELLS;
        for (int m = 0; m < now.plate.count; m++) {
            int cells = now.picture.cellsOf(m);
            most = Math.max(most, cells);
            fewest = Math.min(fewest, cells);
        }
        int above = most - fewest;
        int below = now.picture.cells();
        int both = greatestInBoth(above, below);
        return cut(part == 0 ? above : below, both);
    }

    public int want(int what) {
        if (!within(what, 0, 1)) {
            return refuse(BEYOND);
        }
        Picture picture = now.picture;
        if (!picture.isThere()) {
            return refuse(NONE);
        }
        int best = runner.wantOf(0, 0);
        int where = 0;
        for (int j = 0; j < picture.h; j++) {
            for (int i = 0; i < picture.w; i++) {
                int wanted = runner.wantOf(i, j);
                if (wanted > best) {
                    best = wanted;
                    where = 10 * i + j;
                }
            }
        }
        return what == 0 ? where : best;
    }

    public int throwsOf(int x, int y, int d, int n) {
        if (!isPlace(x, y) || !within(d, 0, MOST_WANDER) || !within(n, 1, MOST_THROWS)) {
            return refuse(BEYOND);
        }
        int[] thrown = now.thrown;
        clear(thrown);
        now.hasThrown = true;
        for (int k = 0; k < n; k++) {
            int atX = held(x + wander(d), -PLATE_END, PLATE_END);
            int atY = held(y + wander(d), -PLATE_END, PLATE_END);
            int end = runner.endOf(atX, atY, 0, 0, now.rules[FINE]);
            if (within(end, 0, BLIND)) {
                thrown[end]++;
            }
        }
        return n - thrown[BLIND];
    }

    public int thrownAt(int colour) {
        if (!isColour(colour)) {
            return refuse(BEYOND);
        }
        if (!now.hasThrown) {
            return refuse(NONE);
        }
        return now.thrown[colour];
    }

    public int seed(int v) {
        int was = now.z;
        now.z = v;
        return was;
    }

    // ---- voices, sheets, images, what is told

    public int voice(int magnet, int voice, int x) {
        if (!now.plate.has(magnet) || !within(voice, 0, VOICES - 1)) {
            return refuse(BEYOND);
        }
        int answer = voices.answerOf(now.plate, magnet, voice, x);
        if (voices.parted) {
            return refuse(PARTED);
        }
        voices.keepTrace();
        return answer;
    }

    public int body(int i) {
        if (!within(i, 0, voices.size - 1)) {
            return refuse(NONE);
        }
        return voices.trace[i];
    }

    public int sheet(int sheet, int bits, int n) {
        if (!sheets.has(sheet) || (bits != 0 && bits != 8 && bits != 16 && bits != 32)) {
            return refuse(BEYOND);
        }
        if (bits != 0 && n < 0) {
            return refuse(STATE);
        }
        if (bits != 0 && n > MOST_NUMBERS) {
            return refuse(BEYOND);
        }
        sheets.lay(sheet, bits, bits == 0 ? 0 : n);
        return 1;
    }

    public int put(int sheet, int i, int v) {
        if (!sheets.has(sheet)) {
            return refuse(BEYOND);
        }
        if (sheets.lacks(sheet)) {
            return refuse(NONE);
        }
        if (!within(i, 0, sheets.sizes[sheet] - 1)) {
            return refuse(BEYOND);
        }
        sheets.write(sheet, i, v);
        return 1;
    }

    public int move(int sheet, int i, int other, int j, int n) {
        if (!sheets.has(sheet) || !sheets.has(other)) {
            return refuse(BEYOND);
        }
        if (sheets.lacks(sheet) || sheets.lacks(other)) {
            return refuse(NONE);
        }
        if (sheets.bits[sheet] != sheets.bits[other]) {
            return refuse(UNLIKE_KIND);
        }
        if (!sheets.stand(sheet, i, n) || !sheets.stand(other, j, n)) {
            return refuse(BEYOND);
        }
        sheets.carry(sheet, i, other, j, n);
        return n;
    }

    public int magnets(int sheet) {
        if (!sheets.has(sheet)) {
            return refuse(BEYOND);
        }
        if (sheets.lacks(sheet)) {
            return refuse(NONE);
        }
        int came = 0;
        while (came < MOST_MAGNETS && addsFrom(sheet, came * A_MAGNETS_NUMBERS)) {
            came++;
        }
        return came;
    }

    public int image() {
        kept.takeFrom(now);
        images++;
        return images;
    }

    public int restore() {
        if (images <= 0) {
            return refuse(NONE);
        }
        now.takeFrom(kept);
        return now.plate.count;
    }

    public int tell(int v) {
        if (now.waiting >= MOST_WAITING) {
            return refuse(FULL);
        }
        now.waits[now.waiting] = v;
        now.waiting++;
        return now.waiting;
    }

    public int check(int j) {
        int waited = now.waiting;
        now.waiting = 0;
        Picture picture = now.picture;
        if (!picture.isThere()) {
            return refuse(NONE);
        }
        if (!picture.has(0, j)) {
            return refuse(BEYOND);
        }
        for (int i = 0; i < picture.w; i++) {
            if (i >= waited || now.waits[i] != picture.colourAt(i, j)) {
                return 1 + i;
            }
        }
        return waited > picture.w ? 1 + picture.w : 0;
    }

    public int count(int what) {
        switch (what) {
            case 0:
                return now.plate.count;
            case 1:
                return now.picture.cells();
            case 2:
                return now.tape.size;
            case 3:
                return now.waiting;
            case 4:
                return voices.size;
            case 5:
                return now.z;
            default:
                return refuse(BEYOND);
        }
    }

    public int told(int k) {
        return within(k, 1, ERRORS) ? errors[k] : refuse(BEYOND);
    }

    private int refuse(int error) {
        if (within(error, 1, ERRORS)) {
            errors[error]++;
        }
        return LOW - error;
    }

    /** FINER: what the places between the cells tell that the picture does not. */
    private int finer() {
        Picture picture = now.picture;
        int half = picture.step / 2;
        int others = 0;
        for (int j = 0; j < picture.h; j++) {
            for (int i = 0; i < picture.w; i++) {
                for (int k = 1; k <= 3 && picture.isEdge(i, j); k++) {
                    int x = picture.x + i * picture.step + k % 2 * half;
                    int y = picture.y + j * picture.step + k / 2 * half;
                    int colour = picture.colourAt(i, j);
                    if (isPlace(x, y) && runner.endOf(x, y, 0, 0, now.rules[FINE]) != colour) {
                        others++;
                    }
                }
            }
        }
        return others;
    }

    /** One draw of the hand, -d to d. */
    private int wander(int d) {
        now.z = now.z * 1103515245 + 12345;
        int sides = 2 * d + 1;
        return sides > 0 ? (now.z >>> 8) % sides - d : 0;
    }

    private boolean addsFrom(int sheet, int i) {
        if (now.plate.isFull() || !sheets.stand(sheet, i, A_MAGNETS_NUMBERS)) {
            return false;
        }
        int kind = sheets.number(sheet, i);
        int x = sheets.number(sheet, i + 1);
        int y = sheets.number(sheet, i + 2);
        int strength = sheets.number(sheet, i + 3);
        if (!isMagnet(kind, x, y, strength)) {
            return false;
        }
        now.plate.add(kind, x, y, strength);
        return true;
    }

    private static boolean isMagnet(int kind, int x, int y, int strength) {
        return isKind(kind) && isPlace(x, y) && within(strength, 0, MOST_STRENGTH);
    }

    private static boolean isKind(int kind) {
        return within(kind, 0, KINDS - 1);
    }

    private static boolean isUnder(int kind, int above) {
        int at = kind;
        for (int k = 0; k < KINDS && isKind(at); k++) {
            if (at == above) {
                return true;
            }
            at = ABOVE[at];
        }
        return false;
    }

    private static boolean isPlace(int x, int y) {
        return within(x, -PLATE_END, PLATE_END) && within(y, -PLATE_END, PLATE_END);
    }

    private static boolean isSpeed(int u) {
        return within(u, -MOST_SPEED, MOST_SPEED);
    }

    private static boolean isColour(int colour) {
        return colour == BLIND || within(colour, 0, MOST_MAGNETS - 1);
    }

    private static boolean isUse(int use) {
        return within(use, 0, USES - 1);
    }

    private static String namesOf(int use) {
        return use == PULLING ? "rsn" : use == RUBBING ? "vrn" : "clxye";
    }

    private static boolean within(int v, int least, int most) {
        return v >= least && v <= most;
    }

    private static int held(int v, int least, int most) {
        return Math.max(least, Math.min(most, v));
    }

    private static int cut(int a, int b) {
        return b == 0 ? 0 : a / b;
    }

    private static int greatestInBoth(int a, int b) {
        int one = a;
        int other = b;
        // Numbers up to 36 take some eight turns; the counter only shows that there is an end.
        for (int k = 0; k < 100 && other != 0; k++) {
            int rest = one % other;
            one = other;
            other = rest;
        }
        return one;
    }

    private static void clear(int[] row) {
        for (int k = 0; k < row.length; k++) {
            row[k] = 0;
        }
    }

    /** Both rows are of one length wherever this is called; the shorter one bounds it all the same. */
    private static void copy(int[] from, int[] to) {
        System.arraycopy(from, 0, to, 0, Math.min(from.length, to.length));
    }

    /** All that an image keeps. Its parts are made once, and filled anew by each image or restore. */
    private static final class State {
        final Plate plate = new Plate();
        final int[] rules = RULE_FIRST.clone();
        final Tape tape = new Tape();
        final Text pulling = new Text();
        final Text rubbing = new Text();
        final Text wanting = new Text();
        final Bob bob = new Bob();
        final Picture picture = new Picture();
        final int[] thrown = new int[COLOURS];
        boolean hasThrown = false;
        final int[] waits = new int[MOST_WAITING];
        int waiting = 0;
        int z = 1;

        Text textOf(int use) {
            return use == PULLING ? pulling : use == RUBBING ? rubbing : wanting;
        }

        void takeFrom(State other) {
            plate.takeFrom(other.plate);
            copy(other.rules, rules);
            tape.takeFrom(other.tape);
            pulling.takeFrom(other.pulling);
            rubbing.takeFrom(other.rubbing);
            wanting.takeFrom(other.wanting);
            bob.takeFrom(other.bob);
            picture.takeFrom(other.picture);
            copy(other.thrown, thrown);
            hasThrown = other.hasThrown;
            copy(other.waits, waits);
            waiting = other.waiting;
            z = other.z;
        }
    }

    /** The magnets that stand on the plate. */
    private static final class Plate {
        final int[] kinds = new int[MOST_MAGNETS];
        final int[] xs = new int[MOST_MAGNETS];
        final int[] ys = new int[MOST_MAGNETS];
        final int[] strengths = new int[MOST_MAGNETS];
        int count = 0;

        boolean has(int magnet) {
            return magnet >= 0 && magnet < count && magnet < MOST_MAGNETS;
        }

        boolean isFull() {
            return count >= MOST_MAGNETS;
        }

        int add(int kind, int x, int y, int strength) {
            if (count < 0 || isFull()) {
                return -1;
            }
            int magnet = count;
            kinds[magnet] = kind;
            xs[magnet] = x;
            ys[magnet] = y;
            strengths[magnet] = strength;
            count++;
            return magnet;
        }

        int far(int magnet, int bobX, int bobY) {
            if (!has(magnet)) {
                return NO_MAGNET_FAR;
            }
            int offX = Math.abs(PARTS * xs[magnet] - bobX);
            int offY = Math.abs(PARTS * ys[magnet] - bobY);
            return (offX + offY) / PARTS;
        }

        /** The number of the nearest magnet, of all or of those at which a bob may rest; -1: none. */
        int nearestTo(int bobX, int bobY, boolean toRest) {
            int best = -1;
            int least = 0;
            for (int m = 0; m < count; m++) {
                int far = far(m, bobX, bobY);
                if ((best < 0 || far < least) && !(toRest && pushes(m))) {
                    best = m;
                    least = far;
                }
            }
            return best;
        }

        private boolean pushes(int magnet) {
            return has(magnet) && (kinds[magnet] == PUSHING || kinds[magnet] == DOUBLE);
        }

        void takeFrom(Plate other) {
            copy(other.kinds, kinds);
            copy(other.xs, xs);
            copy(other.ys, ys);
            copy(other.strengths, strengths);
            count = other.count;
        }
    }

    /** A bob: where it is and how fast, in sixteenths of a place. */
    private static final class Bob {
        int x = 0;
        int y = 0;
        int u = 0;
        int v = 0;
        int ticks = 0;

        void letGo(int placeX, int placeY, int speedX, int speedY) {
            x = placeX * PARTS;
            y = placeY * PARTS;
            u = speedX;
            v = speedY;
            ticks = 0;
        }

        void takeFrom(Bob other) {
            x = other.x;
            y = other.y;
            u = other.u;
            v = other.v;
            ticks = other.ticks;
        }
    }

    /** The bytes that were fed and are no text yet. */
    private static final class Tape {
        final int[] bytes = new int[MOST_BYTES];
        int size = 0;

        /** The byte at a place; -1 behind the last one. */
        int at(int place) {
            return place >= 0 && place < size && place < MOST_BYTES ? bytes[place] : -1;
        }

        void takeFrom(Tape other) {
            copy(other.bytes, bytes);
            size = other.size;
        }
    }

    /** A text as steps over a stack, operands ahead of their sign; without steps there is no text. */
    private static final class Text {
        final int[] signs = new int[MOST_BYTES];
        final int[] values = new int[MOST_BYTES];
        int size = 0;

        void add(int sign, int value) {
            if (size >= 0 && size < MOST_BYTES) {
                signs[size] = sign;
                values[size] = value;
                size++;
            }
        }

        int valueWith(int[] names, int[] stack) {
            int top = -1;
            for (int k = 0; k < size && k < MOST_BYTES; k++) {
                int sign = signs[k];
                int value = values[k];
                if (sign == AT_A_NUMBER || sign == AT_A_NAME) {
                    if (top + 1 < stack.length) {
                        top++;
                        stack[top] = sign == AT_A_NUMBER ? value : within(value, 0, names.length - 1) ? names[value] : 0;
                    }
                } else if (sign == '!') {
                    if (top >= 0) {
                        stack[top] = stack[top] == 0 ? 1 : 0;
                    }
                } else if (top >= 1) {
                    stack[top - 1] = together(sign, stack[top - 1], stack[top]);
                    top--;
                }
            }
            return top >= 0 ? stack[top] : 0;
        }

        private static int together(int sign, int a, int b) {
            switch (sign) {
                case '|':
                    return a != 0 || b != 0 ? 1 : 0;
                case '&':
                    return a != 0 && b != 0 ? 1 : 0;
                case '<':
                    return a < b ? 1 : 0;
                case '=':
                    return a == b ? 1 : 0;
                case '>':
                    return a > b ? 1 : 0;
                case '+':
                    return a + b;
                case '-':
                    return a - b;
                case '*':
                    return a * b;
                case '/':
                    return b == 0 ? 0 : a / b;
                default:
                    return b == 0 ? 0 : a % b;
            }
        }

        void takeFrom(Text other) {
            copy(other.signs, signs);
            copy(other.values, values);
            size = other.size;
        }
    }

    /** Reads a tape as a text; it stops at the first byte with which no text goes on. */
    private static final class Reader {
        final Text draft = new Text();
        private final Tape tape;
        private String names = "";
        private int place = 0;
        private boolean good = true;

        Reader(Tape tape) {
            this.tape = tape;
        }

        /** The FAULT of what stands on the tape; -1: there is none, and the draft is the text. */
        int faultFor(String namesOfUse) {
            names = namesOfUse;
            place = 0;
            good = true;
            draft.size = 0;
            readLevel(0, 0);
            return good && place == tape.size ? -1 : place;
        }

        /** What stands open is told by open, the signs that may join here by level. */
        private void readLevel(int level, int open) {
            if (level >= LEVELS) {
                readOperand(open);
                return;
            }
            readLevel(level + 1, open);
            int most = level == COMPARING ? 1 : MOST_BYTES;
            for (int k = 0; k < most && good && joins(level, tape.at(place)); k++) {
                int sign = tape.at(place);
                place++;
                readLevel(level + 1, open);
                draft.add(sign, 0);
            }
        }

        private static boolean joins(int level, int sign) {
            switch (level) {
                case 0:
                    return sign == '|';
                case 1:
                    return sign == '&';
                case 2:
                    return sign == '<' || sign == '=' || sign == '>';
                case 3:
                    return sign == '+' || sign == '-';
                default:
                    return sign == '*' || sign == '/' || sign == '%';
            }
        }

        private void readOperand(int open) {
            int sign = tape.at(place);
            if (isDigit(sign)) {
                readNumber();
            } else if (sign == '(' && open < MOST_OPEN) {
                place++;
                readLevel(0, open + 1);
                readClose();
            } else if (sign == '!' && open < MOST_OPEN) {
                place++;
                readOperand(open + 1);
                draft.add('!', 0);
            } else {
                readName(sign);
            }
        }

        private void readClose() {
            if (good && tape.at(place) == ')') {
                place++;
            } else {
                good = false;
            }
        }

        private void readNumber() {
            int number = 0;
            for (int k = 0; k < MOST_DIGITS && isDigit(tape.at(place)); k++) {
                number = number * 10 + tape.at(place) - '0';
                place++;
            }
            draft.add(AT_A_NUMBER, number);
        }

        private void readName(int sign) {
            int name = sign < 0 ? -1 : names.indexOf((char) sign);
            if (name < 0) {
                good = false;
                return;
            }
            place++;
            draft.add(AT_A_NAME, name);
        }

        private static boolean isDigit(int sign) {
            return sign >= '0' && sign <= '9';
        }
    }

    /** Lets bobs run by the magnets, rules and texts of a state. */
    private static final class Runner {
        private final State state;
        /** The bob that is let go only to see where it ends; its ticks tell the LENGTH. */
        final Bob trial = new Bob();
        private final int[] names = new int[MOST_NAMES];
        private final int[] stack = new int[MOST_BYTES];

        Runner(State state) {
            this.state = state;
        }

        int endOf(int x, int y, int u, int v, int fine) {
            trial.letGo(x, y, u, v);
            int limit = state.rules[LIMIT] * fine;
            int end = restOf(trial);
            for (int k = 0; k < limit && end == BLIND; k++) {
                step(trial, fine);
                end = restOf(trial);
            }
            return end;
        }

        int restOf(Bob bob) {
            if (Math.abs(bob.u) + Math.abs(bob.v) > state.rules[QUIET]) {
                return BLIND;
            }
            int magnet = state.plate.nearestTo(bob.x, bob.y, true);
            if (magnet < 0 || state.plate.far(magnet, bob.x, bob.y) > state.rules[NEAR]) {
                return BLIND;
            }
            return magnet;
        }

        /** One TICK, in the order in which the document counts its parts. */
        void step(Bob bob, int fine) {
            int f = Math.max(1, fine);
            Plate plate = state.plate;
            for (int m = 0; plate.has(m) && m < MOST_MAGNETS; m++) {
                int far = plate.far(m, bob.x, bob.y);
                int full = fullPull(plate.strengths[m], far, bob.ticks);
                int force = pullByKind(plate.kinds[m], full, far, bob.ticks);
                int by = PARTS * (far + 1);
                bob.u += cut((PARTS * plate.xs[m] - bob.x) * force, by) / f;
                bob.v += cut((PARTS * plate.ys[m] - bob.y) * force, by) / f;
            }
            int gravity = state.rules[GRAVITY];
            bob.u -= bob.x * gravity / BOB_END / f;
            bob.v -= bob.y * gravity / BOB_END / f;
            int rub = rubOf(bob);
            bob.u -= bob.u * rub / 100 / f;
            bob.v -= bob.v * rub / 100 / f;
            go(bob, f);
            bob.ticks++;
        }

        private static void go(Bob bob, int f) {
            int x = bob.x + cut(bob.u, f);
            int y = bob.y + cut(bob.v, f);
            bob.x = held(x, -BOB_END, BOB_END);
            bob.y = held(y, -BOB_END, BOB_END);
            if (bob.x != x) {
                bob.u = 0;
            }
            if (bob.y != y) {
                bob.v = 0;
            }
        }

        int pullOf(int magnet, int far, int ticks) {
            if (!state.plate.has(magnet)) {
                return 0;
            }
            int full = fullPull(state.plate.strengths[magnet], far, ticks);
            return pullByKind(state.plate.kinds[magnet], full, far, ticks);
        }

        /** What a kind makes of the pull that a plain magnet would have there. */
        private static int pullByKind(int kind, int full, int far, int ticks) {
            if ((kind == BLINKING || kind == SHY) && ticks % 2 != 0 || kind == FAINT && far > FAINT_REACH) {
                return 0;
            }
            switch (kind) {
                case WEAK:
                case FAINT:
                    return full / 2;
                case PUSHING:
                    return 0 - full;
                case SHY:
                    return Math.max(0, full - 3);
                case DOUBLE:
                    return 2 * (0 - full);
                default:
                    return full;
            }
        }

        /** The pull of a plain magnet. */
        private int fullPull(int strength, int far, int ticks) {
            if (state.pulling.size <= 0) {
                return cut(strength * 9, far + 3);
            }
            names[0] = far;
            names[1] = strength;
            names[2] = ticks;
            return held(state.pulling.valueWith(names, stack), -MOST_PULL, MOST_PULL);
        }

        private int rubOf(Bob bob) {
            if (state.rubbing.size <= 0) {
                return state.rules[RUB];
            }
            int magnet = state.plate.nearestTo(bob.x, bob.y, false);
            names[0] = Math.abs(bob.u) + Math.abs(bob.v);
            names[1] = state.plate.far(magnet, bob.x, bob.y);
            names[2] = bob.ticks;
            return held(state.rubbing.valueWith(names, stack), 0, MOST_RUB);
        }

        int wantOf(int i, int j) {
            Picture picture = state.picture;
            names[0] = picture.colourAt(i, j);
            names[1] = picture.lengthAt(i, j);
            names[2] = picture.x + i * picture.step;
            names[3] = picture.y + j * picture.step;
            names[4] = picture.isEdge(i, j) ? 1 : 0;
            return state.wanting.valueWith(names, stack);
        }
    }

    /** The latest picture: its frame, and colour and length of each cell. */
    private static final class Picture {
        int x = 0;
        int y = 0;
        int w = 0;
        int h = 0;
        int step = 0;
        private final int[] painted = new int[MOST_CELLS];
        private final int[] spans = new int[MOST_CELLS];

        boolean isThere() {
            return w > 0 && h > 0;
        }

        int cells() {
            return w * h;
        }

        boolean has(int i, int j) {
            return i >= 0 && i < w && i < MOST_CELLS_A_SIDE && j >= 0 && j < h && j < MOST_CELLS_A_SIDE;
        }

        void frame(int firstX, int firstY, int across, int down, int apart) {
            x = firstX;
            y = firstY;
            w = across;
            h = down;
            step = apart;
        }

        void paint(int i, int j, int end, int span) {
            if (has(i, j)) {
                painted[j * MOST_CELLS_A_SIDE + i] = end;
                spans[j * MOST_CELLS_A_SIDE + i] = span;
            }
        }

        int colourAt(int i, int j) {
            return has(i, j) ? painted[j * MOST_CELLS_A_SIDE + i] : BLIND;
        }

        int lengthAt(int i, int j) {
            return has(i, j) ? spans[j * MOST_CELLS_A_SIDE + i] : 0;
        }

        int cellsOf(int colour) {
            return cellsAround(0, 0, MOST_CELLS_A_SIDE, colour);
        }

        int cellsAround(int i, int j, int off, int colour) {
            int cells = 0;
            for (int b = j - off; b <= j + off; b++) {
                for (int a = i - off; a <= i + off; a++) {
                    if (has(a, b) && colourAt(a, b) == colour) {
                        cells++;
                    }
                }
            }
            return cells;
        }

        int colours() {
            int colours = 0;
            for (int colour = 0; colour < COLOURS; colour++) {
                if (cellsOf(colour) > 0) {
                    colours++;
                }
            }
            return colours;
        }

        boolean isEdge(int i, int j) {
            int colour = colourAt(i, j);
            return isOther(i - 1, j, colour) || isOther(i + 1, j, colour)
                    || isOther(i, j - 1, colour) || isOther(i, j + 1, colour);
        }

        private boolean isOther(int i, int j, int colour) {
            return has(i, j) && colourAt(i, j) != colour;
        }

        int edges() {
            int edges = 0;
            for (int j = 0; j < h; j++) {
                for (int i = 0; i < w; i++) {
                    if (isEdge(i, j)) {
                        edges++;
                    }
                }
            }
            return edges;
        }

        int threes() {
            int threes = 0;
            for (int j = 0; j + 1 < h; j++) {
                for (int i = 0; i + 1 < w; i++) {
                    if (coloursOfSquare(i, j) >= 3) {
                        threes++;
                    }
                }
            }
            return threes;
        }

        private int coloursOfSquare(int i, int j) {
            int a = colourAt(i, j);
            int b = colourAt(i + 1, j);
            int c = colourAt(i, j + 1);
            int d = colourAt(i + 1, j + 1);
            int colours = 1;
            colours += b != a ? 1 : 0;
            colours += c != a && c != b ? 1 : 0;
            colours += d != a && d != b && d != c ? 1 : 0;
            return colours;
        }

        int lengths() {
            int sum = 0;
            for (int j = 0; j < h; j++) {
                for (int i = 0; i < w; i++) {
                    sum += lengthAt(i, j);
                }
            }
            return sum;
        }

        /** Two cells that agree must agree where they come to, and two that don't must not. */
        boolean isAlikeTurned(int quarters) {
            for (int a = 0; a < cells(); a++) {
                for (int b = 0; b < a; b++) {
                    boolean alike = turnedColour(a, 0) == turnedColour(b, 0);
                    boolean alikeThere = turnedColour(a, quarters) == turnedColour(b, quarters);
                    if (alike != alikeThere) {
                        return false;
                    }
                }
            }
            return true;
        }

        /** The colour where the cell comes to that is number k, row by row. */
        private int turnedColour(int k, int quarters) {
            int i = w > 0 ? k % w : 0;
            int j = w > 0 ? k / w : 0;
            for (int q = 0; q < quarters; q++) {
                int was = i;
                i = w - 1 - j;
                j = was;
            }
            return colourAt(i, j);
        }

        void takeFrom(Picture other) {
            frame(other.x, other.y, other.w, other.h, other.step);
            copy(other.painted, painted);
            copy(other.spans, spans);
        }
    }

    /** The voices of magnets, and the bodies that the latest one that answered went through. */
    private static final class Voices {
        final int[] trace = new int[MOST_TRACE];
        int size = 0;
        boolean parted = false;
        /** Kept apart until the voice has answered: one that is parted leaves the trace as it was. */
        private final int[] began = new int[MOST_TRACE];
        private int beganSize = 0;
        private int kind = 0;
        private int number = 0;
        private int strength = 0;

        int answerOf(Plate plate, int magnet, int voice, int x) {
            parted = false;
            beganSize = 0;
            if (!plate.has(magnet)) {
                return 0;
            }
            kind = plate.kinds[magnet];
            number = magnet;
            strength = plate.strengths[magnet];
            return speak(voice, kind, x, 0);
        }

        void keepTrace() {
            copy(began, trace);
            size = beganSize;
        }

        /** A voice by the body of a kind, or of the next one above that has one. */
        private int speak(int voice, int from, int x, int depth) {
            int holder = holderOf(voice, from);
            if (holder < 0 || depth > DEEPEST_VOICE) {
                return 0;
            }
            int body = bodyOf(voice, holder);
            if (beganSize < MOST_TRACE) {
                began[beganSize] = body;
                beganSize++;
            }
            return workOut(body, ABOVE[holder], x, depth + 1);
        }

        private int workOut(int body, int above, int x, int depth) {
            switch (body) {
                case 10:
                    return x + strength;
                case 11:
                    return speak(PULLS, kind, x, depth) * 2;
                case 12:
                    return speak(RESTS, kind, x, depth) - number;
                case 13:
                    return divided(x);
                case 20:
                    return speak(PULLS, above, x, depth) - 1;
                case 21:
                    return speak(PARTING, above, x, depth) ^ strength;
                case 30:
                    return 0 - speak(RESTS, above, x, depth);
                case 31:
                    return speak(TELLS, above, x, depth) + speak(PULLS, kind, 1, depth);
                case 40:
                    return speak(PARTING, above, x + 2, depth);
                case 50:
                    return speak(PULLS, above, x / 2, depth);
                case 51:
                    return speak(TELLS, above, x, depth) - speak(PARTING, kind, 0, depth);
                case 60:
                    return speak(PARTING, above, x, depth) * 3;
                case 61:
                    return speak(RESTS, above, x, depth) + number;
                case 70:
                    return speak(RESTS, above, x, depth) * 2;
                default:
                    return 5;
            }
        }

        private int divided(int x) {
            int by = strength - number;
            if (by == 0) {
                parted = true;
                return 0;
            }
            return x / by;
        }

        private static int holderOf(int voice, int from) {
            int at = from;
            for (int k = 0; k < KINDS && isKind(at); k++) {
                if (bodyOf(voice, at) != 0) {
                    return at;
                }
                at = ABOVE[at];
            }
            return -1;
        }

        private static int bodyOf(int voice, int at) {
            return isKind(at) && within(voice, 0, VOICES - 1) ? BODIES[at * VOICES + voice] : 0;
        }
    }

    /** The four rows of numbers; one with no bits is missing. */
    private static final class Sheets {
        final int[] bits = new int[SHEETS];
        final int[] sizes = new int[SHEETS];
        private final int[] numbers = new int[SHEETS * MOST_NUMBERS];

        boolean has(int sheet) {
            return sheet >= 0 && sheet < SHEETS;
        }

        boolean lacks(int sheet) {
            return !has(sheet) || bits[sheet] == 0;
        }

        void lay(int sheet, int width, int n) {
            if (has(sheet) && within(n, 0, MOST_NUMBERS)) {
                bits[sheet] = width;
                sizes[sheet] = n;
                for (int i = 0; i < MOST_NUMBERS; i++) {
                    numbers[sheet * MOST_NUMBERS + i] = 0;
                }
            }
        }

        /** Whether a sheet has n numbers from number i on; 0 of them stand behind the last one, too. */
        boolean stand(int sheet, int i, int n) {
            return has(sheet) && n >= 0 && i >= 0 && n <= sizes[sheet] && i <= sizes[sheet] - n;
        }

        int number(int sheet, int i) {
            return stand(sheet, i, 1) ? numbers[sheet * MOST_NUMBERS + i] : 0;
        }

        void write(int sheet, int i, int v) {
            if (stand(sheet, i, 1)) {
                int width = bits[sheet];
                numbers[sheet * MOST_NUMBERS + i] = width == 8 ? (byte) v : width == 16 ? (short) v : v;
            }
        }

        void carry(int sheet, int i, int other, int j, int n) {
            if (stand(sheet, i, n) && stand(other, j, n)) {
                System.arraycopy(numbers, sheet * MOST_NUMBERS + i, numbers, other * MOST_NUMBERS + j, n);
            }
        }
    }
}
