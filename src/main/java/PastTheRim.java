/**
 * Rocked out of the snow: a car in a hollow goes to and fro till it is over the rim.
 *
 * Everything that a call needs is made once, with the object: no call makes an object or an array,
 * so that many calls fit into one room.
 */
public final class PastTheRim {
    private static final int LOW = -1000000000;
    private static final int BEYOND = 1;
    private static final int NONE = 2;
    private static final int STATE = 3;
    private static final int FULL = 4;
    private static final int KIND = 5;
    private static final int PARTED = 6;

    private static final int USES = 2;
    private static final int GAS_MOST = 9;
    private static final int STEADY_MOST = 60;
    private static final int STROKES_MOST = 20;
    private static final int DRAWN_MOST = 40;
    private static final int BYTES_OF_WORD = 8;
    private static final int FAULT_BASE = -10;

    private final World world = new World();
    private final World kept = new World();
    private final Car thought = new Car();
    private final Rows rows = new Rows();
    private final Reader reader = new Reader();
    private final Voices voices = new Voices();
    private final Sheet[] sheets = new Sheet[Sheet.SHEETS];
    private final int[] failed = new int[PARTED + 1];
    private int images = 0;

    public PastTheRim() {
        for (int i = 0; i < sheets.length; i++) {
            sheets[i] = new Sheet();
        }
    }

    // ---- pushers, the car.

    public int pusher(int km) {
        if (!isKindAndLevel(km)) {
            return fails(BEYOND);
        }
        if (!world.pushers.hasRoom()) {
            return fails(FULL);
        }
        return world.pushers.comes(km / 10, km % 10);
    }

    public int pusherIs(int pusher, int what) {
        if (!world.pushers.has(pusher)) {
            return fails(BEYOND);
        }
        switch (what) {
            case 0: return world.pushers.kindOf(pusher);
            case 1: return world.pushers.levelOf(pusher);
            case 2: return world.pushers.pushOf(pusher, world.car);
            case 3: return world.pushers.weightOf(pusher);
            default: return fails(BEYOND);
        }
    }

    public int become(int pusher, int km) {
        if (!world.pushers.has(pusher) || !isKindAndLevel(km)) {
            return fails(BEYOND);
        }
        int was = world.pushers.kindOf(pusher);
        world.pushers.turn(pusher, km / 10, km % 10);
        return was;
    }

    public int as(int pusher, int kind) {
        if (!world.pushers.has(pusher) || !Kinds.isKind(kind)) {
            return fails(BEYOND);
        }
        if (!Kinds.isUnder(world.pushers.kindOf(pusher), kind)) {
            return fails(KIND);
        }
        return world.pushers.levelOf(pusher);
    }

    public int leaves() {
        if (world.pushers.size() == 0) {
            return fails(STATE);
        }
        world.pushers.dropLast();
        return world.pushers.size();
    }

    public int car(int what, int v) {
        if (!Car.canBecome(what, v)) {
            return fails(BEYOND);
        }
        int was = world.car.tells(what);
        world.car.alter(what, v);
        return was;
    }

    public int carIs(int what) {
        if (!within(what, 0, Car.TOLD_LAST)) {
            return fails(BEYOND);
        }
        return world.car.tells(what);
    }

    public int park(int depth) {
        if (!within(depth, Car.DEPTH_LEAST, Car.DEPTH_MOST)) {
            return fails(BEYOND);
        }
        world.car.standIn(depth);
        return world.car.outs;
    }

    // ---- texts.

    public int feed(long word, int n) {
        if (!within(n, 1, BYTES_OF_WORD)) {
            return fails(BEYOND);
        }
        if (!world.tape.hasRoom(n)) {
            return fails(FULL);
        }
        for (int i = 0; i < n; i++) {
            world.tape.add((int) ((word >>> (8 * i)) & 255L));
        }
        return world.tape.size();
    }

    public int text(int use) {
        if (!within(use, 0, USES - 1)) {
            return fails(BEYOND);
        }
        boolean whole = reader.reads(world.tape, use);
        world.tape.empty();
        if (!whole) {
            return FAULT_BASE - reader.place();
        }
        world.lawOf(use).takes(reader.code());
        return 1;
    }

    public int untell(int use) {
        if (!within(use, 0, USES - 1)) {
            return fails(BEYOND);
        }
        return world.lawOf(use).forgets() ? 1 : 0;
    }

    public int law(int use, int a, int b, int c) {
        if (!within(use, 0, USES - 1)) {
            return fails(BEYOND);
        }
        return world.lawOf(use).gives(a, b, c);
    }

    // ---- swings.

    public int swing(int gas) {
        if (!isGas(gas)) {
            return fails(BEYOND);
        }
        if (isAtRest()) {
            return fails(STATE);
        }
        world.drive(world.car, gas, Pushers.ALL);
        return world.car.height;
    }

    public int swings(int n) {
        if (!within(n, 1, DRAWN_MOST)) {
            return fails(BEYOND);
        }
        if (isAtRest()) {
            return fails(STATE);
        }
        int done = 0;
        while (done < n && !isAtRest()) {
            world.z = drawnBehind(world.z);
            world.drive(world.car, gasOf(world.z), Pushers.ALL);
            done++;
        }
        return done;
    }

    public int shovel(int n) {
        if (!within(n, 1, STROKES_MOST)) {
            return fails(BEYOND);
        }
        world.car.dig(n);
        return world.car.depth;
    }

    public int seed(int v) {
        int was = world.z;
        world.z = v;
        return was;
    }

    // ---- what would be.

    public int now(int what) {
        switch (what) {
            case 0: return world.gripOf(world.car, Pushers.ALL);
            case 1: return world.pushOf(world.car, Pushers.ALL);
            case 2: return world.rubOf(world.car);
            default: return fails(BEYOND);
        }
    }

    public int would(int gas, int what) {
        if (!isGas(gas) || !within(what, 0, 4)) {
            return fails(BEYOND);
        }
        thought.copyFrom(world.car);
        boolean spins = world.drive(thought, gas, Pushers.ALL);
        switch (what) {
            case 0: return thought.height;
            case 1: return thought.depth;
            case 2: return thought.ice;
            case 3: return spins ? 1 : 0;
            default: return thought.isOverTheRim() ? 1 : 0;
        }
    }

    public int plan(int n, int what) {
        if (!within(n, 1, Rows.PLAN_MOST) || !within(what, -2, n - 1)) {
            return fails(BEYOND);
        }
        if (world.car.out) {
            return fails(STATE);
        }
        rows.seekBest(world, n);
        if (what == -2) {
            return rows.bestSwings();
        }
        return what == -1 ? rows.bestOver() : rows.keptGas(what);
    }

    public int steady(int gas) {
        if (!isGas(gas)) {
            return fails(BEYOND);
        }
        int swings = swingsTillOut(gas);
        return swings < 0 ? fails(NONE) : swings;
    }

    public int least() {
        for (int gas = 0; gas <= GAS_MOST; gas++) {
            if (swingsTillOut(gas) >= 0) {
                return gas;
            }
        }
        return fails(NONE);
    }

    public int crew(int gas, int n, int what) {
        if (!isGas(gas) || !within(n, 1, STEADY_MOST) || !within(what, 0, 1)) {
            return fails(BEYOND);
        }
        int set = leastSet(gas, n);
        if (set < 0) {
            return fails(NONE);
        }
        return what == 0 ? Integer.bitCount(set) : set;
    }

    public int deepest(int gas, int n) {
        if (!isGas(gas) || !within(n, 1, STEADY_MOST)) {
            return fails(BEYOND);
        }
        if (world.car.out) {
            return fails(STATE);
        }
        for (int depth = Car.DEPTH_MOST; depth >= Car.DEPTH_LEAST; depth--) {
            thought.copyFrom(world.car);
            thought.depth = depth;
            if (world.swingsTillOut(thought, gas, n, Pushers.ALL) >= 0) {
                return depth;
            }
        }
        return fails(NONE);
    }

    public int strokes(int gas, int n) {
        if (!isGas(gas) || !within(n, 1, STEADY_MOST)) {
            return fails(BEYOND);
        }
        if (world.car.out) {
            return fails(STATE);
        }
        for (int strokes = 0; strokes <= STROKES_MOST; strokes++) {
            thought.copyFrom(world.car);
            thought.dig(strokes);
            if (world.swingsTillOut(thought, gas, n, Pushers.ALL) >= 0) {
                return strokes;
            }
        }
        return fails(NONE);
    }

    public int fits(int sheet, int what) {
        Sheet heights = sheetAt(sheet);
        if (heights == null || !within(what, -1, Rows.FITS_MOST - 1)) {
            return fails(BEYOND);
        }
        if (heights.isMissing() || !within(heights.size(), 1, Rows.FITS_MOST)) {
            return fails(NONE);
        }
        int found = rows.seekFits(world, heights);
        if (what == -1) {
            return found;
        }
        return found == 0 || what >= heights.size() ? fails(NONE) : rows.keptGas(what);
    }

    public int odds(int n, int part) {
        if (!within(n, 1, Rows.ODDS_MOST) || !within(part, 0, 1)) {
            return fails(BEYOND);
        }
        if (world.car.out) {
            return fails(STATE);
        }
        int all = Rows.rowsOf(n);
        int outs = rows.countOuts(world, n);
        int common = commonDivisor(outs, all);
        if (common == 0) {
            return 0;
        }
        return (part == 0 ? outs : all) / common;
    }

    // ---- voices, sheets, images, what is told.

    public int voice(int pusher, int voice, int x) {
        if (!world.pushers.has(pusher) || !Voices.isVoice(voice)) {
            return fails(BEYOND);
        }
        int kind = world.pushers.kindOf(pusher);
        if (!voices.speaks(kind, pusher, world.pushers.levelOf(pusher), voice, x)) {
            return fails(PARTED);
        }
        return voices.answer();
    }

    public int body(int i) {
        if (!voices.trace().has(i)) {
            return fails(NONE);
        }
        return voices.trace().at(i);
    }

    public int sheet(int sheet, int bits, int n) {
        Sheet numbers = sheetAt(sheet);
        if (numbers == null || !Sheet.canHaveBits(bits)) {
            return fails(BEYOND);
        }
        if (bits == 0) {
            numbers.goesMissing();
            return 1;
        }
        if (n < 0) {
            return fails(STATE);
        }
        if (n > Sheet.NUMBERS_MOST) {
            return fails(BEYOND);
        }
        numbers.begins(bits, n);
        return 1;
    }

    public int put(int sheet, int i, int v) {
        Sheet numbers = sheetAt(sheet);
        if (numbers == null) {
            return fails(BEYOND);
        }
        if (numbers.isMissing()) {
            return fails(NONE);
        }
        if (!numbers.holds(i, 1)) {
            return fails(BEYOND);
        }
        numbers.write(i, v);
        return 1;
    }

    public int move(int sheet, int i, int other, int j, int n) {
        Sheet from = sheetAt(sheet);
        Sheet to = sheetAt(other);
        if (from == null || to == null) {
            return fails(BEYOND);
        }
        if (from.isMissing() || to.isMissing()) {
            return fails(NONE);
        }
        if (from.bits() != to.bits()) {
            return fails(KIND);
        }
        if (!from.holds(i, n) || !to.holds(j, n)) {
            return fails(BEYOND);
        }
        to.takes(j, from, i, n);
        return n;
    }

    public int levels(int sheet) {
        Sheet numbers = sheetAt(sheet);
        if (numbers == null) {
            return fails(BEYOND);
        }
        if (numbers.isMissing()) {
            return fails(NONE);
        }
        int most = Math.min(numbers.size(), world.pushers.size());
        for (int i = 0; i < most; i++) {
            int level = numbers.at(i);
            if (!within(level, 0, Pushers.LEVEL_MOST)) {
                return i;
            }
            world.pushers.turn(i, world.pushers.kindOf(i), level);
        }
        return most;
    }

    public int judge(int sheet) {
        Sheet heights = sheetAt(sheet);
        if (heights == null) {
            return fails(BEYOND);
        }
        if (heights.isMissing()) {
            return fails(NONE);
        }
        thought.copyFrom(world.car);
        int z = world.z;
        int right = 0;
        while (right < heights.size() && !thought.out) {
            z = drawnBehind(z);
            world.drive(thought, gasOf(z), Pushers.ALL);
            if (thought.height != heights.at(right)) {
                return right;
            }
            right++;
        }
        return right;
    }

    public int image() {
        kept.copyFrom(world);
        images++;
        return images;
    }

    public int restore() {
        if (images == 0) {
            return fails(NONE);
        }
        world.copyFrom(kept);
        return world.car.swing;
    }

    public int tell(int v) {
        if (!world.waiting.hasRoom(1)) {
            return fails(FULL);
        }
        world.waiting.add(v);
        return world.waiting.size();
    }

    public int check() {
        int first = firstUnlikePush();
        world.waiting.empty();
        return first < 0 ? 0 : 1 + first;
    }

    public int count(int what) {
        switch (what) {
            case 0: return world.pushers.size();
            case 1: return world.car.swing;
            case 2: return world.tape.size();
            case 3: return world.waiting.size();
            case 4: return voices.trace().size();
            case 5: return world.z;
            default: return fails(BEYOND);
        }
    }

    public int told(int k) {
        if (!within(k, BEYOND, PARTED) || k >= failed.length) {
            return fails(BEYOND);
        }
        return failed[k];
    }

    // ---- what the calls share.

    private int fails(int error) {
        if (error >= 0 && error < failed.length) {
            failed[error]++;
        }
        return LOW - error;
    }

    private boolean isAtRest() {
        return world.car.out || world.car.swing >= Car.SWING_MOST;
    }

    private Sheet sheetAt(int i) {
        return i >= 0 && i < sheets.length ? sheets[i] : null;
    }

    /** As STEADY; -1 if it isn't out by then. */
    private int swingsTillOut(int gas) {
        thought.copyFrom(world.car);
        return world.swingsTillOut(thought, gas, STEADY_MOST, Pushers.ALL);
    }

    /** The least of the smallest sets with which it comes out, as bits; -1 if there is none. */
    private int leastSet(int gas, int n) {
        int pushers = world.pushers.size();
        for (int many = 0; many <= pushers; many++) {
            for (int set = 0; set < 1 << pushers; set++) {
                if (Integer.bitCount(set) != many) {
                    continue;
                }
                thought.copyFrom(world.car);
                if (world.swingsTillOut(thought, gas, n, set) >= 0) {
                    return set;
                }
            }
        }
        return -1;
    }

    /** The place of the first waiting number that isn't its pusher's push; -1 if all are. */
    private int firstUnlikePush() {
        for (int i = 0; i < world.waiting.size(); i++) {
            if (!world.pushers.has(i) || world.pushers.pushOf(i, world.car) != world.waiting.at(i)) {
                return i;
            }
        }
        return -1;
    }

    private static boolean within(int v, int least, int most) {
        return v >= least && v <= most;
    }

    private static boolean isGas(int gas) {
        return within(gas, 0, GAS_MOST);
    }

    private static boolean isKindAndLevel(int km) {
        return km >= 0 && Kinds.isKind(km / 10);
    }

    private static int drawnBehind(int z) {
        return z * 1103515245 + 12345;
    }

    private static int gasOf(int z) {
        return (z >>> 8) % (GAS_MOST + 1);
    }

    private static int commonDivisor(int a, int b) {
        int greater = a;
        int smaller = b;
        // Euclid's rests shrink: an int's need fewer than fifty steps.
        for (int i = 0; i < 50 && smaller != 0; i++) {
            int rest = greater % smaller;
            greater = smaller;
            smaller = rest;
        }
        return greater;
    }

    /** The tree of kinds. */
    private static final class Kinds {
        private static final int PUSHER = 0;
        private static final int RHYTHM = 1;
        private static final int LATE = 2;
        private static final int BACKER = 3;
        private static final int LEADER = 4;
        private static final int TIRED = 5;
        private static final int SITTER = 6;

        private static final int[] ABOVE = {-1, PUSHER, PUSHER, PUSHER, RHYTHM, LATE, PUSHER};

        static boolean isKind(int kind) {
            return kind >= 0 && kind < ABOVE.length;
        }

        /** The kind above one; -1 above the topmost. */
        static int above(int kind) {
            return isKind(kind) ? ABOVE[kind] : -1;
        }

        static boolean isUnder(int kind, int other) {
            int at = kind;
            for (int i = 0; i < ABOVE.length && at >= 0; i++) {
                if (at == other) {
                    return true;
                }
                at = above(at);
            }
            return false;
        }
    }

    /** A row of numbers with a room that is made once and never grows. */
    private static final class Numbers {
        private final int[] cells;
        private int size = 0;

        Numbers(int room) {
            cells = new int[Math.max(room, 0)];
        }

        int size() {
            return size;
        }

        boolean has(int i) {
            return i >= 0 && i < size;
        }

        boolean hasRoom(int more) {
            return more <= cells.length - size;
        }

        int at(int i) {
            return has(i) && i < cells.length ? cells[i] : 0;
        }

        void add(int v) {
            if (size >= 0 && size < cells.length) {
                cells[size] = v;
                size++;
            }
        }

        void empty() {
            size = 0;
        }

        void copyFrom(Numbers other) {
            size = Math.max(0, Math.min(other.size, Math.min(other.cells.length, cells.length)));
            System.arraycopy(other.cells, 0, cells, 0, size);
        }
    }

    /** The car in its hollow, real or only thought. */
    private static final class Car {
        private static final int DEPTH_LEAST = 1;
        private static final int DEPTH_MOST = 60;
        private static final int MOST = 99;
        private static final int SWING_MOST = 9999;
        private static final int OUTS_MOST = 9999;
        private static final int TOLD_LAST = 6;
        private static final int ICE_BY_STROKE = 2;

        private int depth = 20;
        private int ice = 0;
        private int height = 0;
        private int side = 0;
        private int sand = 0;
        private int swing = 0;
        private int outs = 0;
        private boolean out = false;

        static boolean canBecome(int what, int v) {
            switch (what) {
                case 0: return within(v, DEPTH_LEAST, DEPTH_MOST);
                case 1:
                case 2:
                case 4: return within(v, 0, MOST);
                case 3: return within(v, 0, 1);
                default: return false;
            }
        }

        int tells(int what) {
            switch (what) {
                case 0: return depth;
                case 1: return ice;
                case 2: return height;
                case 3: return side;
                case 4: return sand;
                case 5: return out ? 1 : 0;
                default: return outs;
            }
        }

        void alter(int what, int v) {
            switch (what) {
                case 0: depth = v; break;
                case 1: ice = v; break;
                case 2: height = v; break;
                case 3: side = v; break;
                case 4: sand = v; break;
                default: break;
            }
        }

        void standIn(int hollow) {
            depth = hollow;
            ice = 0;
            height = 0;
            side = 0;
            out = false;
        }

        void dig(int strokes) {
            depth = Math.max(DEPTH_LEAST, depth - strokes);
            ice = Math.max(0, ice - ICE_BY_STROKE * strokes);
        }

        boolean isOverTheRim() {
            return height >= depth;
        }

        /** One swing, with what grips, pushes and rubs ahead of it: whether it spins. */
        boolean go(int gas, int grip, int push, int rub) {
            boolean spins = gas > grip;
            if (spins) {
                ice = Math.min(MOST, ice + gas - grip);
                depth = Math.min(DEPTH_MOST, depth + 1);
                sand = Math.max(0, sand - 1);
            }
            int counted = spins ? 0 : gas;
            height = Math.max(0, Math.min(MOST, height + counted + push - rub));
            side = 1 - side;
            swing++;
            if (isOverTheRim()) {
                out = true;
                outs = Math.min(OUTS_MOST, outs + 1);
            }
            return spins;
        }

        void copyFrom(Car other) {
            depth = other.depth;
            ice = other.ice;
            height = other.height;
            side = other.side;
            sand = other.sand;
            swing = other.swing;
            outs = other.outs;
            out = other.out;
        }
    }

    /** The people; a set of them is told by bits. */
    private static final class Pushers {
        private static final int PUSHERS_MOST = 6;
        private static final int LEVEL_MOST = 9;
        private static final int ALL = (1 << PUSHERS_MOST) - 1;

        private final int[] kinds = new int[PUSHERS_MOST];
        private final int[] levels = new int[PUSHERS_MOST];
        private int size = 0;

        int size() {
            return size;
        }

        boolean has(int i) {
            return i >= 0 && i < size && i < kinds.length && i < levels.length;
        }

        boolean hasRoom() {
            return size < PUSHERS_MOST;
        }

        int comes(int kind, int level) {
            if (hasRoom()) {
                size++;
                turn(size - 1, kind, level);
            }
            return size - 1;
        }

        void turn(int i, int kind, int level) {
            if (has(i)) {
                kinds[i] = kind;
                levels[i] = level;
            }
        }

        void dropLast() {
            size = Math.max(size - 1, 0);
        }

        int kindOf(int i) {
            return has(i) ? kinds[i] : Kinds.PUSHER;
        }

        int levelOf(int i) {
            return has(i) ? levels[i] : 0;
        }

        int weightOf(int i) {
            return has(i) && kinds[i] == Kinds.SITTER ? levels[i] : 0;
        }

        int pushOf(int i, Car car) {
            if (!has(i)) {
                return 0;
            }
            boolean ahead = car.side == 0;
            int asPusher = ahead ? levels[i] : 0;
            int asRhythm = ahead ? levels[i] + 2 : 0;
            int asLate = car.swing % 2 == 0 ? asPusher : 0;
            switch (kinds[i]) {
                case Kinds.RHYTHM: return asRhythm;
                case Kinds.LATE: return asLate;
                case Kinds.BACKER: return ahead ? 0 : levels[i];
                case Kinds.LEADER: return asRhythm + car.height / 8;
                case Kinds.TIRED: return Math.max(0, asLate - car.swing / 8);
                case Kinds.SITTER: return 0;
                default: return asPusher;
            }
        }

        int weightOfSet(int set) {
            int sum = 0;
            for (int i = 0; i < size; i++) {
                sum += isIn(set, i) ? weightOf(i) : 0;
            }
            return sum;
        }

        int pushOfSet(int set, Car car) {
            int sum = 0;
            for (int i = 0; i < size; i++) {
                sum += isIn(set, i) ? pushOf(i, car) : 0;
            }
            return sum;
        }

        void copyFrom(Pushers other) {
            size = other.size;
            System.arraycopy(other.kinds, 0, kinds, 0, PUSHERS_MOST);
            System.arraycopy(other.levels, 0, levels, 0, PUSHERS_MOST);
        }

        private static boolean isIn(int set, int i) {
            return ((set >> i) & 1) == 1;
        }
    }

    /**
     * What a use gives: by its text, kept as a row that is worked out from left to right over a
     * stack (numbers as they are, a name as less than 0 by its place, a sign as less than 0), or
     * without one.
     */
    private static final class Law {
        private static final int GRIP = 0;
        private static final int CODE_MOST = 60;
        private static final int MOST = 99;

        private final int use;
        private final int[] code = new int[CODE_MOST];
        private final int[] stack = new int[CODE_MOST];
        private int length = 0;
        private boolean hasText = false;

        Law(int use) {
            this.use = use;
        }

        void takes(Numbers text) {
            length = Math.min(text.size(), code.length);
            for (int i = 0; i < length; i++) {
                code[i] = text.at(i);
            }
            hasText = true;
        }

        boolean forgets() {
            boolean had = hasText;
            hasText = false;
            return had;
        }

        int gives(int a, int b, int c) {
            return Math.max(0, Math.min(MOST, hasText ? byText(a, b, c) : withoutText(a, b, c)));
        }

        void copyFrom(Law other) {
            length = Math.max(0, Math.min(other.length, CODE_MOST));
            System.arraycopy(other.code, 0, code, 0, length);
            hasText = other.hasText;
        }

        private int withoutText(int a, int b, int c) {
            return use == GRIP ? 9 + c - a / 10 : 2 + b / 10;
        }

        private int byText(int a, int b, int c) {
            int top = 0;
            for (int i = 0; i < length && i < code.length; i++) {
                int sign = code[i];
                if (sign >= Reader.NAME_LAST) {
                    if (top < stack.length) {
                        stack[top] = sign >= 0 ? sign : valueOf(sign, a, b, c);
                        top++;
                    }
                } else if (sign == -'!') {
                    if (top >= 1 && top <= stack.length) {
                        stack[top - 1] = stack[top - 1] == 0 ? 1 : 0;
                    }
                } else if (top >= 2 && top <= stack.length) {
                    top--;
                    stack[top - 1] = workedOut(-sign, stack[top - 1], stack[top]);
                }
            }
            return top >= 1 ? stack[0] : 0;
        }

        private static int valueOf(int name, int a, int b, int c) {
            return name == -1 ? a : name == -2 ? b : c;
        }

        private static int workedOut(int sign, int left, int right) {
            switch (sign) {
                case '|': return left != 0 || right != 0 ? 1 : 0;
                case '&': return left != 0 && right != 0 ? 1 : 0;
                case '<': return left < right ? 1 : 0;
                case '=': return left == right ? 1 : 0;
                case '>': return left > right ? 1 : 0;
                case '+': return left + right;
                case '-': return left - right;
                case '*': return left * right;
                case '/': return right == 0 ? 0 : left / right;
                case '%': return right == 0 ? 0 : left % right;
                default: return 0;
            }
        }
    }

    /** Reads a tape as a text; where it can't go on, place() stands at the fault. */
    private static final class Reader {
        private static final int NAME_LAST = -3;
        private static final int DIGITS_MOST = 4;
        private static final int OPEN_MOST = 5;
        private static final int COMPARING = 2;
        private static final int TIGHTEST = 4;
        private static final int END = -1;

        private final Numbers tape = new Numbers(Law.CODE_MOST);
        private final Numbers code = new Numbers(Law.CODE_MOST);
        private int use = 0;
        private int place = 0;

        boolean reads(Numbers bytes, int ofUse) {
            tape.copyFrom(bytes);
            code.empty();
            use = ofUse;
            place = 0;
            return readsPart(0, 0) && place == tape.size();
        }

        int place() {
            return place;
        }

        Numbers code() {
            return code;
        }

        private boolean readsPart(int level, int open) {
            return level > TIGHTEST ? readsLeaf(open) : readsLevel(level, open);
        }

        /** Parts of the next level with this level's signs between; two compared, at most. */
        private boolean readsLevel(int level, int open) {
            if (!readsPart(level + 1, open)) {
                return false;
            }
            int most = level == COMPARING ? 1 : Law.CODE_MOST;
            for (int i = 0; i < most && levelOf(sign()) == level; i++) {
                int between = sign();
                place++;
                if (!readsPart(level + 1, open)) {
                    return false;
                }
                code.add(-between);
            }
            return true;
        }

        private boolean readsLeaf(int open) {
            int sign = sign();
            if (isDigit(sign)) {
                readNumber();
                return true;
            }
            if (sign == '!' || sign == '(') {
                return open < OPEN_MOST && readsOpened(sign, open + 1);
            }
            int name = nameOf(sign);
            if (name == 0) {
                return false;
            }
            place++;
            code.add(-name);
            return true;
        }

        private boolean readsOpened(int sign, int open) {
            place++;
            if (sign == '!') {
                boolean whole = readsLeaf(open);
                code.add(-'!');
                return whole;
            }
            if (!readsPart(0, open) || sign() != ')') {
                return false;
            }
            place++;
            return true;
        }

        private void readNumber() {
            int number = 0;
            for (int i = 0; i < DIGITS_MOST && isDigit(sign()); i++) {
                number = number * 10 + sign() - '0';
                place++;
            }
            code.add(number);
        }

        private int sign() {
            return tape.has(place) ? tape.at(place) : END;
        }

        /** The place from 1 of a name of this use; 0 if the sign is none. */
        private int nameOf(int sign) {
            switch (sign) {
                case 'i': return use == Law.GRIP ? 1 : 0;
                case 'w': return use == Law.GRIP ? 3 : 0;
                case 'h': return use == Law.GRIP ? 0 : 1;
                case 'n': return use == Law.GRIP ? 0 : 3;
                case 'd': return 2;
                default: return 0;
            }
        }

        private static boolean isDigit(int sign) {
            return sign >= '0' && sign <= '9';
        }

        private static int levelOf(int sign) {
            switch (sign) {
                case '|': return 0;
                case '&': return 1;
                case '<':
                case '=':
                case '>': return COMPARING;
                case '+':
                case '-': return 3;
                case '*':
                case '/':
                case '%': return TIGHTEST;
                default: return -1;
            }
        }
    }

    /** All that an image keeps. */
    private static final class World {
        private static final int TAPE_MOST = 60;
        private static final int WAITING_MOST = 24;
        private static final int GRIP_BY_SAND = 3;

        private final Car car = new Car();
        private final Pushers pushers = new Pushers();
        private final Law grip = new Law(Law.GRIP);
        private final Law rub = new Law(Law.GRIP + 1);
        private final Numbers tape = new Numbers(TAPE_MOST);
        private final Numbers waiting = new Numbers(WAITING_MOST);
        private int z = 1;

        Law lawOf(int use) {
            return use == Law.GRIP ? grip : rub;
        }

        int gripOf(Car at, int set) {
            int bySand = at.sand == 0 ? 0 : GRIP_BY_SAND;
            return grip.gives(at.ice, at.depth, pushers.weightOfSet(set)) + bySand;
        }

        int pushOf(Car at, int set) {
            return pushers.pushOfSet(set, at);
        }

        int rubOf(Car at) {
            return rub.gives(at.height, at.depth, at.swing);
        }

        boolean drive(Car at, int gas, int set) {
            return at.go(gas, gripOf(at, set), pushOf(at, set), rubOf(at));
        }

        /** Drives on with like gas: behind how many swings it is out; -1 if not behind the most. */
        int swingsTillOut(Car at, int gas, int most, int set) {
            int done = 0;
            while (done < most && !at.out) {
                drive(at, gas, set);
                done++;
            }
            return at.out ? done : -1;
        }

        void copyFrom(World other) {
            car.copyFrom(other.car);
            pushers.copyFrom(other.pushers);
            grip.copyFrom(other.grip);
            rub.copyFrom(other.rub);
            tape.copyFrom(other.tape);
            waiting.copyFrom(other.waiting);
            z = other.z;
        }
    }

    /** Tries rows of gases, in order, from where the car is; what is aimed at tells which go on. */
    private static final class Rows {
        private static final int PLAN_MOST = 4;
        private static final int FITS_MOST = 3;
        private static final int ODDS_MOST = 3;
        private static final int BEST = 0;
        private static final int FITS = 1;
        private static final int OUTS = 2;
        /** Less than any HEIGHT less any DEPTH. */
        private static final int OVER_NONE = -1000;

        private final Car[] cars = new Car[PLAN_MOST + 1];
        private final Numbers sought = new Numbers(FITS_MOST);
        private final int[] row = new int[PLAN_MOST];
        private final int[] keptRow = new int[PLAN_MOST];
        private int aim = BEST;
        private int length = 0;
        private int fewest = 0;
        private int over = 0;
        private int found = 0;

        Rows() {
            for (int i = 0; i < cars.length; i++) {
                cars[i] = new Car();
            }
        }

        void seekBest(World world, int n) {
            fewest = n + 1;
            over = OVER_NONE;
            tryAll(world, BEST, n);
        }

        int bestSwings() {
            return fewest > length ? 0 : fewest;
        }

        int bestOver() {
            return over;
        }

        int keptGas(int i) {
            return i >= 0 && i < keptRow.length ? keptRow[i] : 0;
        }

        /** How many rows come just so; the first of them is kept. */
        int seekFits(World world, Sheet heights) {
            sought.empty();
            for (int i = 0; i < heights.size(); i++) {
                sought.add(heights.at(i));
            }
            tryAll(world, FITS, heights.size());
            return found;
        }

        /** How many of all the rows of n gases come out. */
        int countOuts(World world, int n) {
            tryAll(world, OUTS, n);
            return found;
        }

        /** How many rows of n gases there are. */
        static int rowsOf(int n) {
            int rows = 1;
            for (int i = 0; i < n && i < PLAN_MOST; i++) {
                rows *= GAS_MOST + 1;
            }
            return rows;
        }

        private void tryAll(World world, int aimed, int n) {
            aim = aimed;
            length = n;
            found = 0;
            Car first = carAt(0);
            if (first != null && !world.car.out) {
                first.copyFrom(world.car);
                tryFrom(world, 0);
            }
        }

        /** What grips, pushes and rubs is as ahead of the swing: alike for all gases of a level. */
        private void tryFrom(World world, int level) {
            Car from = carAt(level);
            Car to = carAt(level + 1);
            if (from == null || to == null) {
                return;
            }
            int grip = world.gripOf(from, Pushers.ALL);
            int push = world.pushOf(from, Pushers.ALL);
            int rub = world.rubOf(from);
            for (int gas = 0; gas <= GAS_MOST; gas++) {
                to.copyFrom(from);
                to.go(gas, grip, push, rub);
                note(level, gas);
                if (goesOn(level, to) && !to.out && level + 1 < length) {
                    tryFrom(world, level + 1);
                }
            }
        }

        /** Weighs the row up to a level, and tells whether what is behind it can matter. */
        private boolean goesOn(int level, Car to) {
            switch (aim) {
                case FITS: return fitsSoFar(level, to);
                case OUTS: return countsIfOut(level, to);
                default: return canBeBetter(level, to);
            }
        }

        /** Rows come in order, so only a better one takes the place of the one that is kept. */
        private boolean canBeBetter(int level, Car to) {
            int swings = level + 1;
            int ahead = to.height - to.depth;
            boolean outSooner = to.out && swings < fewest;
            boolean higher = !to.out && swings == length && fewest > length && ahead > over;
            if (outSooner) {
                fewest = swings;
            }
            if (outSooner || higher) {
                over = ahead;
                keep(level);
            }
            return swings + 1 < fewest;
        }

        private boolean fitsSoFar(int level, Car to) {
            if (to.height != sought.at(level)) {
                return false;
            }
            if (level + 1 == length) {
                if (found == 0) {
                    keep(level);
                }
                found++;
            }
            return true;
        }

        private boolean countsIfOut(int level, Car to) {
            if (to.out) {
                found += rowsOf(length - level - 1);
            }
            return true;
        }

        private Car carAt(int level) {
            return level >= 0 && level < cars.length ? cars[level] : null;
        }

        private void note(int level, int gas) {
            if (level >= 0 && level < row.length) {
                row[level] = gas;
            }
        }

        /** Keeps the row up to a level; the rest isn't used, and is least as 0. */
        private void keep(int level) {
            for (int i = 0; i < row.length && i < keptRow.length; i++) {
                keptRow[i] = i <= level ? row[i] : 0;
            }
        }
    }

    /** What pushers say, by bodies that stand at kinds. */
    private static final class Voices {
        private static final int HEAVES = 0;
        private static final int SLIPS = 1;
        private static final int CURSES = 2;
        private static final int PARTS = 3;
        private static final int VOICES = 4;
        private static final int TRACE_MOST = 30;
        private static final int DEEP_MOST = 30;

        /** By kinds, the bodies of heaves, slips, curses, parts that stand there; 0 is none. */
        private static final int[] BODIES = {
            10, 11, 12, 13,
            20, 0, 0, 21,
            0, 30, 0, 0,
            0, 0, 40, 0,
            50, 0, 51, 0,
            0, 60, 0, 0,
            70, 71, 0, 0,
        };

        private final Numbers trace = new Numbers(TRACE_MOST);
        private int kind = 0;
        private int k = 0;
        private int m = 0;
        private int answer = 0;
        private boolean parted = false;

        static boolean isVoice(int voice) {
            return voice >= 0 && voice < VOICES;
        }

        /** Works a voice out, false if it is parted: the trace has what began till then. */
        boolean speaks(int ofKind, int number, int level, int voice, int x) {
            kind = ofKind;
            k = number;
            m = level;
            parted = false;
            trace.empty();
            answer = says(kind, voice, x, 0);
            return !parted;
        }

        int answer() {
            return answer;
        }

        Numbers trace() {
            return trace;
        }

        /** A voice by the body at a kind, or at the next above; none begins behind PARTED. */
        private int says(int from, int voice, int x, int deep) {
            int body = bodyFrom(from, voice);
            if (parted || body == 0 || deep >= DEEP_MOST) {
                return 0;
            }
            trace.add(body);
            return worksOut(body, x, deep + 1);
        }

        private static int bodyFrom(int from, int voice) {
            int at = from;
            for (int i = 0; i < BODIES.length && at >= 0; i++) {
                int body = bodyAt(at * VOICES + voice);
                if (body != 0) {
                    return body;
                }
                at = Kinds.above(at);
            }
            return 0;
        }

        private static int bodyAt(int i) {
            return i >= 0 && i < BODIES.length ? BODIES[i] : 0;
        }

        private int worksOut(int body, int x, int deep) {
            switch (body) {
                case 10: return x + k;
                case 11: return says(kind, HEAVES, x, deep) * 2;
                case 12: return says(kind, SLIPS, x, deep) - m;
                case 13: return partsBy(x, m - k);
                case 20: return says(Kinds.PUSHER, HEAVES, x, deep) - 4;
                case 21: return says(Kinds.PUSHER, PARTS, x, deep) + says(kind, SLIPS, 1, deep);
                case 30: return 0 - says(Kinds.PUSHER, SLIPS, x, deep);
                case 40: return says(Kinds.PUSHER, CURSES, x / 2, deep);
                case 50: return says(Kinds.RHYTHM, HEAVES, x, deep) * 3;
                case 51: return says(Kinds.RHYTHM, CURSES, x, deep) ^ k;
                case 60: return says(Kinds.LATE, SLIPS, x + 1, deep);
                case 70: return 9;
                case 71: return says(Kinds.PUSHER, SLIPS, x, deep) + m;
                default: return 0;
            }
        }

        private int partsBy(int x, int by) {
            if (by == 0) {
                parted = true;
                return 0;
            }
            return x / by;
        }
    }

    /** A row of numbers of so many bits, or missing. */
    private static final class Sheet {
        private static final int SHEETS = 4;
        private static final int NUMBERS_MOST = 24;

        private final int[] numbers = new int[NUMBERS_MOST];
        private int bits = 0;
        private int size = 0;

        static boolean canHaveBits(int bits) {
            return bits == 0 || bits == 8 || bits == 16 || bits == 32;
        }

        boolean isMissing() {
            return bits == 0;
        }

        int bits() {
            return bits;
        }

        int size() {
            return size;
        }

        void goesMissing() {
            bits = 0;
            size = 0;
        }

        void begins(int ofBits, int n) {
            bits = ofBits;
            size = Math.max(0, Math.min(n, numbers.length));
            for (int i = 0; i < size; i++) {
                numbers[i] = 0;
            }
        }

        /** Whether n numbers stand here from the i-th on. */
        boolean holds(int i, int n) {
            return i >= 0 && n >= 0 && i <= size && n <= size - i;
        }

        int at(int i) {
            return i >= 0 && i < size && i < numbers.length ? numbers[i] : 0;
        }

        void write(int i, int v) {
            if (i >= 0 && i < size && i < numbers.length) {
                numbers[i] = bits == 8 ? v & 255 : bits == 16 ? v & 65535 : v;
            }
        }

        void takes(int j, Sheet from, int i, int n) {
            if (holds(j, n) && from.holds(i, n)) {
                System.arraycopy(from.numbers, i, numbers, j, n);
            }
        }
    }
}
