import java.util.NoSuchElementException;

/**
 * A cube of numbers with one to four sides that is kept in one of five forms; every answer is
 * told by ../shared/DOC.md, whose words (PLACE, SIDE, NUMBER, FORM, MIX ..) are used here.
 *
 * All rows are made in the constructor and used again, so that no call makes an object.
 */
public final class CubeForms {
    public static final int NONE = -1;

    private static final int MOST_SIDES = 4;
    private static final int MOST_LENGTH = 16;
    private static final int MOST_PLACES = 512;
    private static final int MOST_CORNERS = 16;
    private static final int MOST_EDGE = 16;
    private static final int MOST_VALUE = 1000000000;
    private static final int MOST_BYTES = 400;
    private static final int MOST_MIX_BYTES = 300;
    private static final int MOST_STEPS = 40;
    private static final int MOST_TIMES = 60;
    private static final int MOST_STEPS_RUN = 2000;
    private static final int DEEPEST = 3;
    private static final int MOST_ACTS = 8;
    private static final int FIRST_EDGE = 4;

    private static final int FAULT_STANDS = 1;
    private static final int FAULT_NUMBER = 2;
    private static final int FAULT_FIFTH_SIDE = 3;
    private static final int FAULT_PLACES = 4;
    private static final int FAULT_TOO_DEEP = 3;
    private static final int FAULT_STEPS = 4;
    private static final int FAULT_LESS = 10;

    private static final int STEP_NONE = 0;
    private static final int STEP_ADD = 1;
    private static final int STEP_SUM = 2;
    private static final int STEP_AGAIN = 3;

    private static final int REFUSED_THERE = 0;
    private static final int REFUSED_ARGUMENT = 1;
    private static final int REFUSED_STATE = 2;
    private static final int REASONS = 3;

    private static final Form[] FORMS = Form.values();

    private final Cube cube = new Cube();
    // What is only asked for, or only read so far, happens here, so that the cube itself stays.
    private final Cube trial = new Cube();
    private final History history = new History();
    private final Corners corners = new Corners();
    private final Tape tape = new Tape();
    private Mix mix = new Mix();
    private Mix spareMix = new Mix();
    private final int[] refused = new int[REASONS];
    private int faultPlace = NONE;

    public CubeForms() {
    }

    public int feed(int a, int b, int c, int d, int e) {
        if (!tape.hasRoomForFive()) {
            return NONE;
        }
        tape.put(a);
        tape.put(b);
        tape.put(c);
        tape.put(d);
        tape.put(e);
        return tape.size;
    }

    public int text(int n) throws IllegalArgumentException {
        needArgument(n >= 0 && n <= tape.size);
        tape.open(n);
        trial.takeAll(cube);
        boolean good = tape.readCube(trial);
        faultPlace = tape.faultPlace;
        if (!good) {
            return tape.fault - FAULT_LESS;
        }
        history.keep(cube);
        cube.takeAll(trial);
        mix.forget();
        return cube.places;
    }

    public int mix(int n) throws IllegalArgumentException {
        needArgument(n >= 0 && n <= tape.size && n <= MOST_MIX_BYTES);
        tape.open(n);
        boolean good = tape.readMix(spareMix);
        faultPlace = tape.faultPlace;
        if (!good) {
            return tape.fault - FAULT_LESS;
        }
        Mix read = spareMix;
        spareMix = mix;
        mix = read;
        mix.unrollAll();
        return mix.steps;
    }

    public int fault() {
        return faultPlace;
    }

    public int form(int form) throws IllegalArgumentException {
        needForm(form);
        history.keep(cube);
        cube.takeOn(FORMS[form]);
        return cube.keptCount();
    }

    public int edge(int n) throws IllegalArgumentException {
        needArgument(n >= 1 && n <= MOST_EDGE);
        history.keep(cube);
        int was = cube.edge;
        cube.edge = n;
        return was;
    }

    public int add(int place, int value) throws NoSuchElementException, IllegalStateException {
        needPlace(place);
        long sum = (long) cube.values[place] + value;
        needState(fits(sum));
        history.keep(cube);
        int written = cube.form.writesAt(cube, place);
        cube.values[place] = (int) sum;
        cube.use(place);
        return written;
    }

    public int grow(int side, int n)
            throws NoSuchElementException, IllegalArgumentException, IllegalStateException {
        needSide(side);
        needArgument(n >= 1 && n < MOST_LENGTH);
        needState(cube.canGrow(side, n));
        cube.growFrom(history.keep(cube), side, n);
        mix.forget();
        return cube.keptCount();
    }

    public int fold(int side) throws NoSuchElementException, IllegalStateException {
        needSide(side);
        needState(cube.canFold(side));
        cube.foldFrom(history.keep(cube), side);
        mix.forget();
        return cube.places;
    }

    public int undo() {
        if (history.count == 0) {
            return NONE;
        }
        Cube was = history.takeLatest();
        if (!was.hasSidesOf(cube)) {
            mix.forget();
        }
        cube.takeAll(was);
        return history.count;
    }

    public int told(int what) throws IllegalArgumentException {
        needArgument(what >= 0 && what <= 9);
        switch (what) {
            case 0:
                return cube.sides;
            case 1:
                return cube.places;
            case 2:
                return cube.form.code;
            case 3:
                return cube.edge;
            case 4:
                return cube.keptCount();
            case 5:
                return corners.countOver(cube);
            case 6:
                return cube.countNotZero();
            case 7:
                return mix.steps;
            case 8:
                return tape.size;
            default:
                return history.count;
        }
    }

    public int side(int side, int what) throws NoSuchElementException, IllegalArgumentException {
        needSide(side);
        needArgument(what >= 0 && what <= 2);
        if (what == 0) {
            return cube.length[side];
        }
        if (what == 1) {
            return cube.pieces(side);
        }
        return cube.form.slots(cube, side, false);
    }

    public int value(int place) throws NoSuchElementException {
        needPlace(place);
        return cube.values[place];
    }

    public int at(int place, int side) throws NoSuchElementException {
        needPlace(place);
        needSide(side);
        return cube.x(place, side);
    }

    public long number(int k) throws NoSuchElementException {
        needThere(k >= 0 && k < cube.keptCount());
        corners.gather(cube);
        return corners.keptAt(cube, k);
    }

    public long sum(int from, int to) throws NoSuchElementException, IllegalArgumentException {
        needBox(from, to);
        corners.gather(cube);
        corners.setBox(cube, from, to);
        return corners.boxSum(cube);
    }

    public int reads(int from, int to) throws NoSuchElementException, IllegalArgumentException {
        needBox(from, to);
        return cube.readsOf(from, to);
    }

    public int writes(int place) throws NoSuchElementException {
        needPlace(place);
        return cube.form.writesAt(cube, place);
    }

    public long slab(int side, int x) throws NoSuchElementException {
        needSide(side);
        needThere(x >= 0 && x < cube.length[side]);
        corners.gather(cube);
        corners.setBox(cube, 0, cube.places - 1);
        corners.low[side] = x;
        corners.high[side] = x;
        return corners.boxSum(cube);
    }

    public int other(int form, int what) throws IllegalArgumentException {
        needForm(form);
        needArgument(what == 0 || what == 1);
        trial.takeAll(cube);
        trial.takeOn(FORMS[form]);
        return what == 0 ? trial.keptCount() : corners.countOver(trial);
    }

    public long cost(int form, int edge) throws IllegalArgumentException {
        needForm(form);
        boolean boxes = FORMS[form] == Form.BOXES;
        needArgument(boxes ? edge >= 1 && edge <= MOST_EDGE : edge == 0);
        return costOfTrial(FORMS[form], boxes ? edge : cube.edge);
    }

    public int cheapest(int what) throws IllegalArgumentException {
        needArgument(what == 0 || what == 1);
        boolean byForm = what == 0;
        int best = byForm ? 0 : 1;
        int last = byForm ? FORMS.length - 1 : MOST_EDGE;
        long bestCost = Long.MAX_VALUE;
        for (int i = best; i <= last; i++) {
            long cost = byForm ? costOfTrial(FORMS[i], cube.edge) : costOfTrial(Form.BOXES, i);
            if (cost < bestCost) {
                best = i;
                bestCost = cost;
            }
        }
        return best;
    }

    public int window(int place) throws NoSuchElementException {
        needPlace(place);
        corners.gather(cube);
        return corners.bestWindow(cube, place);
    }

    public int least(long much, int what) throws IllegalArgumentException {
        needArgument(what >= 0 && what <= 2);
        corners.gather(cube);
        if (!corners.findLeast(cube, much)) {
            return NONE;
        }
        if (what == 0) {
            return corners.leastPlaces;
        }
        return what == 1 ? corners.leastBegin : corners.leastEnd;
    }

    public long print() {
        return corners.foldedNumbers(cube);
    }

    public int status(int what) {
        return what >= 0 && what < REASONS ? refused[what] : NONE;
    }

    private long costOfTrial(Form form, int edge) {
        trial.takeAll(cube);
        trial.edge = edge;
        trial.takeOn(form);
        return form == Form.LISTS ? mix.costByOrder(trial) : mix.costByTimes(trial);
    }

    private void needThere(boolean there) {
        if (!there) {
            refused[REFUSED_THERE]++;
            throw new NoSuchElementException();
        }
    }

    private void needArgument(boolean good) {
        if (!good) {
            refused[REFUSED_ARGUMENT]++;
            throw new IllegalArgumentException();
        }
    }

    private void needState(boolean good) {
        if (!good) {
            refused[REFUSED_STATE]++;
            throw new IllegalStateException();
        }
    }

    private void needPlace(int place) {
        needThere(cube.hasPlace(place));
    }

    private void needSide(int side) {
        needThere(side >= 0 && side < cube.sides);
    }

    private void needForm(int form) {
        needArgument(form >= 0 && form < FORMS.length);
    }

    private void needBox(int from, int to) {
        needPlace(from);
        needPlace(to);
        needArgument(cube.hasBox(from, to));
    }

    private static boolean fits(long number) {
        return number >= Integer.MIN_VALUE && number <= Integer.MAX_VALUE;
    }

    /**
     * What a FORM does along one SIDE. Each NUMBER of a FORM is the SUM of a box, so a SIDE has
     * slots, each standing for some x from low to high, and a NUMBER is one slot of each SIDE;
     * what is READ and WRITTEN is counted SIDE by SIDE and multiplied.
     *
     * The SIDES that are "chosen" in BOXES have slots of their own (ahead); the other FORMS have
     * no such slots, so that every choice but that of no SIDE holds no NUMBER.
     */
    private enum Form {
        PLAIN(0) {
            int read(Cube c, int s, int from, int to) {
                return to - from + 1;
            }
        },
        SUMS(1) {
            int low(Cube c, int high, boolean ahead) {
                return 0;
            }

            int written(Cube c, int s, int x) {
                return c.length[s] - x;
            }
        },
        BOXES(2) {
            int slots(Cube c, int s, boolean ahead) {
                return ahead ? c.pieces(s) - 1 : c.length[s];
            }

            int low(Cube c, int high, boolean ahead) {
                return ahead ? 0 : high - high % c.edge;
            }

            int high(Cube c, int s, int slot, boolean ahead) {
                return ahead ? (slot + 1) * c.edge - 1 : slot;
            }

            int written(Cube c, int s, int x) {
                int piece = x / c.edge;
                int pieceEnd = Math.min((piece + 1) * c.edge, c.length[s]);
                return pieceEnd - x + c.pieces(s) - 1 - piece;
            }

            int made(Cube c, int x) {
                return x < c.edge ? 1 : 2;
            }
        },
        TREE(3) {
            int low(Cube c, int high, boolean ahead) {
                return high & (high + 1);
            }

            int written(Cube c, int s, int x) {
                int count = 0;
                for (int end = x; end < c.length[s]; end++) {
                    if (low(c, end, false) <= x) {
                        count++;
                    }
                }
                return count;
            }

            int made(Cube c, int x) {
                return Integer.bitCount(x + 1);
            }
        },
        LISTS(4) {
            int slots(Cube c, int s, boolean ahead) {
                return ahead ? 0 : Integer.bitCount(c.used[s]);
            }

            int high(Cube c, int s, int slot, boolean ahead) {
                int left = slot;
                for (int x = 0; x < c.length[s]; x++) {
                    if ((c.used[s] >> x & 1) == 1) {
                        if (left == 0) {
                            return x;
                        }
                        left--;
                    }
                }
                return 0;
            }

            int read(Cube c, int s, int from, int to) {
                int inBox = (1 << (to + 1)) - (1 << from);
                return Integer.bitCount(c.used[s] & inBox);
            }

            int writesAt(Cube c, int place) {
                int before = 1;
                int behind = 1;
                for (int s = 0; s < c.sides; s++) {
                    before *= Integer.bitCount(c.used[s]);
                    behind *= Integer.bitCount(c.used[s] | 1 << c.x(place, s));
                }
                return Math.max(1, behind - before);
            }
        };

        final int code;

        Form(int code) {
            this.code = code;
        }

        /** How many slots a SIDE has. */
        int slots(Cube c, int s, boolean ahead) {
            return ahead ? 0 : c.length[s];
        }

        /** The last x that a slot stands for. */
        int high(Cube c, int s, int slot, boolean ahead) {
            return slot;
        }

        /** The first x of the slot with that last x. */
        int low(Cube c, int high, boolean ahead) {
            return high;
        }

        /** How many slots of a SIDE have an x. */
        int written(Cube c, int s, int x) {
            return 1;
        }

        /** How many slots of a SIDE make up all from its begin to x. */
        int made(Cube c, int x) {
            return 1;
        }

        /** How many slots of a SIDE are READ for all from one x to another. */
        int read(Cube c, int s, int from, int to) {
            return made(c, to) + (from > 0 ? made(c, from - 1) : 0);
        }

        /** How many NUMBERS an ADD at a PLACE WRITES. */
        int writesAt(Cube c, int place) {
            int count = 1;
            for (int s = 0; s < c.sides; s++) {
                count *= written(c, s, c.x(place, s));
            }
            return count;
        }
    }

    /** The CUBE and the way it is kept: all that an ACT may change. */
    private static final class Cube {
        // SIDES that there are not have the length 1 here, so no stride or length is ever 0.
        final int[] length = new int[MOST_SIDES];
        final int[] stride = new int[MOST_SIDES];
        // Bit x of a SIDE: x is USED. Only LISTS asks for it, and takes it on anew itself.
        final int[] used = new int[MOST_SIDES];
        final int[] values = new int[MOST_PLACES];
        int sides = 1;
        int places = 1;
        int edge = FIRST_EDGE;
        Form form = Form.PLAIN;

        Cube() {
            measure();
        }

        /** Strides and PLACES by the lengths. */
        void measure() {
            int step = 1;
            for (int s = MOST_SIDES - 1; s >= 0; s--) {
                if (s >= sides || length[s] < 1) {
                    length[s] = 1;
                }
                stride[s] = step;
                step *= length[s];
            }
            places = step;
        }

        void takeAll(Cube from) {
            System.arraycopy(from.length, 0, length, 0, MOST_SIDES);
            System.arraycopy(from.stride, 0, stride, 0, MOST_SIDES);
            System.arraycopy(from.used, 0, used, 0, MOST_SIDES);
            System.arraycopy(from.values, 0, values, 0, from.places);
            sides = from.sides;
            places = from.places;
            edge = from.edge;
            form = from.form;
        }

        void clearValues() {
            for (int p = 0; p < places; p++) {
                values[p] = 0;
            }
        }

        boolean hasSidesOf(Cube other) {
            if (sides != other.sides) {
                return false;
            }
            for (int s = 0; s < sides; s++) {
                if (length[s] != other.length[s]) {
                    return false;
                }
            }
            return true;
        }

        boolean hasPlace(int place) {
            return place >= 0 && place < places;
        }

        boolean hasBox(int from, int to) {
            for (int s = 0; s < sides; s++) {
                if (x(from, s) > x(to, s)) {
                    return false;
                }
            }
            return true;
        }

        int x(int place, int s) {
            return place / stride[s] % length[s];
        }

        int pieces(int s) {
            return (length[s] + edge - 1) / edge;
        }

        int countNotZero() {
            int count = 0;
            for (int p = 0; p < places; p++) {
                if (values[p] != 0) {
                    count++;
                }
            }
            return count;
        }

        void takeOn(Form next) {
            form = next;
            for (int s = 0; s < MOST_SIDES; s++) {
                used[s] = 0;
            }
            if (next == Form.LISTS) {
                useNotZero();
            }
        }

        private void useNotZero() {
            for (int p = 0; p < places; p++) {
                if (values[p] != 0) {
                    use(p);
                }
            }
        }

        void use(int place) {
            for (int s = 0; s < sides; s++) {
                used[s] |= 1 << x(place, s);
            }
        }

        int choices() {
            return 1 << sides;
        }

        /** How many NUMBERS there are for a choice of SIDES. */
        int ways(int choice) {
            int count = 1;
            for (int s = 0; s < sides; s++) {
                count *= form.slots(this, s, (choice >> s & 1) == 1);
            }
            return count;
        }

        int keptCount() {
            int count = 0;
            for (int choice = 0; choice < choices(); choice++) {
                count += ways(choice);
            }
            return count;
        }

        int readsOf(int from, int to) {
            int count = 1;
            for (int s = 0; s < sides; s++) {
                count *= form.read(this, s, x(from, s), x(to, s));
            }
            return count;
        }

        boolean canGrow(int side, int n) {
            int longer = length[side] + n;
            return longer <= MOST_LENGTH && places / length[side] * longer <= MOST_PLACES;
        }

        void growFrom(Cube old, int side, int n) {
            length[side] = old.length[side] + n;
            measure();
            clearValues();
            for (int p = 0; p < old.places; p++) {
                int place = 0;
                for (int s = 0; s < sides; s++) {
                    place += old.x(p, s) * stride[s];
                }
                values[place] = old.values[p];
            }
        }

        boolean canFold(int side) {
            if (sides == 1) {
                return false;
            }
            for (int p = 0; p < places; p++) {
                if (x(p, side) == 0 && !fits(lineSum(p, side))) {
                    return false;
                }
            }
            return true;
        }

        void foldFrom(Cube old, int side) {
            sides = old.sides - 1;
            for (int s = side; s < sides; s++) {
                length[s] = old.length[s + 1];
            }
            measure();
            int next = 0;
            for (int p = 0; p < old.places && next < places; p++) {
                if (old.x(p, side) == 0) {
                    values[next] = (int) old.lineSum(p, side);
                    next++;
                }
            }
            takeOn(old.form);
        }

        /** The SUM along a SIDE from a PLACE on whose x there is 0. */
        long lineSum(int place, int side) {
            long sum = 0;
            for (int i = 0; i < length[side]; i++) {
                sum += values[place + i * stride[side]];
            }
            return sum;
        }
    }

    /** The latest ACTS: for each the cube as it was ahead of it. */
    private static final class History {
        final Cube[] cubes = new Cube[MOST_ACTS];
        int next = 0;
        int count = 0;

        History() {
            for (int i = 0; i < MOST_ACTS; i++) {
                cubes[i] = new Cube();
            }
        }

        /** Keeps the cube as it is, and answers what it keeps. */
        Cube keep(Cube now) {
            Cube kept = cubes[next];
            kept.takeAll(now);
            next = (next + 1) % MOST_ACTS;
            count = Math.min(count + 1, MOST_ACTS);
            return kept;
        }

        /** What keep() kept last; it is free again then. Only where count is above 0. */
        Cube takeLatest() {
            next = (next + MOST_ACTS - 1) % MOST_ACTS;
            count--;
            return cubes[next];
        }
    }

    /** SUMS of boxes of a cube by their corners; gather() comes ahead of all that asks for one. */
    private static final class Corners {
        final long[] upTo = new long[MOST_PLACES];
        final int[] low = new int[MOST_SIDES];
        final int[] high = new int[MOST_SIDES];
        final int[] corner = new int[MOST_CORNERS];
        int leastPlaces = 0;
        int leastBegin = 0;
        int leastEnd = 0;

        /** For each PLACE the SUM from NUMBER 0 to it. */
        void gather(Cube c) {
            for (int p = 0; p < c.places; p++) {
                upTo[p] = c.values[p];
            }
            for (int s = 0; s < c.sides; s++) {
                int stride = c.stride[s];
                int block = Math.max(1, stride * c.length[s]);
                for (int begin = 0; begin < c.places; begin += block) {
                    for (int p = begin + stride; p < begin + block; p++) {
                        upTo[p] += upTo[p - stride];
                    }
                }
            }
        }

        void setBox(Cube c, int from, int to) {
            for (int s = 0; s < c.sides; s++) {
                low[s] = c.x(from, s);
                high[s] = c.x(to, s);
            }
        }

        /** The SUM of the box from low to high. */
        long boxSum(Cube c) {
            corner[0] = 0;
            for (int s = 0; s < c.sides; s++) {
                corner[0] += high[s] * c.stride[s];
            }
            int count = 1;
            for (int s = 0; s < c.sides; s++) {
                if (low[s] > 0) {
                    int back = (high[s] - low[s] + 1) * c.stride[s];
                    for (int i = 0; i < count; i++) {
                        corner[count + i] = corner[i] - back;
                    }
                    count *= 2;
                }
            }
            long sum = 0;
            for (int i = 0; i < count; i++) {
                // As many SIDES as i has bits end ahead of the box in this corner.
                sum += Integer.bitCount(i) % 2 == 0 ? upTo[corner[i]] : -upTo[corner[i]];
            }
            return sum;
        }

        int boxPlaces(Cube c) {
            int count = 1;
            for (int s = 0; s < c.sides; s++) {
                count *= high[s] - low[s] + 1;
            }
            return count;
        }

        /** The k-th NUMBER of all that are kept; only where there are so many. */
        long keptAt(Cube c, int k) {
            int left = k;
            for (int choice = 0; choice < c.choices(); choice++) {
                int ways = c.ways(choice);
                if (left < ways) {
                    return keptOf(c, choice, left);
                }
                left -= ways;
            }
            return 0;
        }

        /** The k-th NUMBER of a choice of SIDES; only where there are so many. */
        long keptOf(Cube c, int choice, int k) {
            int left = k;
            for (int s = c.sides - 1; s >= 0; s--) {
                boolean ahead = (choice >> s & 1) == 1;
                int slots = Math.max(1, c.form.slots(c, s, ahead));
                high[s] = c.form.high(c, s, left % slots, ahead);
                low[s] = c.form.low(c, high[s], ahead);
                left /= slots;
            }
            return boxSum(c);
        }

        int countOver(Cube c) {
            gather(c);
            int count = 0;
            for (int choice = 0; choice < c.choices(); choice++) {
                int ways = c.ways(choice);
                for (int k = 0; k < ways; k++) {
                    if (!fits(keptOf(c, choice, k))) {
                        count++;
                    }
                }
            }
            return count;
        }

        /** All NUMBERS as one, as print() tells. */
        long foldedNumbers(Cube c) {
            gather(c);
            long all = 0;
            for (int choice = 0; choice < c.choices(); choice++) {
                int ways = c.ways(choice);
                for (int k = 0; k < ways; k++) {
                    all = 31 * all + keptOf(c, choice, k);
                }
            }
            return all;
        }

        int bestWindow(Cube c, int shape) {
            int best = 0;
            long bestSum = Long.MIN_VALUE;
            for (int begin = 0; begin < c.places; begin++) {
                if (setWindow(c, begin, shape)) {
                    long sum = boxSum(c);
                    if (sum > bestSum) {
                        best = begin;
                        bestSum = sum;
                    }
                }
            }
            return best;
        }

        /** Whether a box of the shape has room where it begins. */
        boolean setWindow(Cube c, int begin, int shape) {
            for (int s = 0; s < c.sides; s++) {
                low[s] = c.x(begin, s);
                high[s] = low[s] + c.x(shape, s);
                if (high[s] >= c.length[s]) {
                    return false;
                }
            }
            return true;
        }

        boolean findLeast(Cube c, long much) {
            leastPlaces = MOST_PLACES + 1;
            for (int begin = 0; begin < c.places && leastPlaces > 1; begin++) {
                findLeastFrom(c, much, begin);
            }
            return leastPlaces <= MOST_PLACES;
        }

        /** Ends are gone through as they rise, so that of several the first one stays. */
        void findLeastFrom(Cube c, long much, int begin) {
            setBox(c, begin, begin);
            int ends = 1;
            for (int s = 0; s < c.sides; s++) {
                ends *= c.length[s] - low[s];
            }
            for (int i = 0; i < ends; i++) {
                int places = boxPlaces(c);
                if (places < leastPlaces && boxSum(c) >= much) {
                    leastPlaces = places;
                    leastBegin = begin;
                    // The first corner of a box is its end.
                    leastEnd = corner[0];
                }
                stepEnd(c);
            }
        }

        void stepEnd(Cube c) {
            for (int s = c.sides - 1; s >= 0; s--) {
                if (high[s] + 1 < c.length[s]) {
                    high[s]++;
                    return;
                }
                high[s] = low[s];
            }
        }
    }

    /** The STEPS of a MIX as they are written, and the order in which they run. */
    private static final class Mix {
        final int[] kind = new int[MOST_STEPS];
        // The PLACE of "add", the first one of "sum", how many times of "again".
        final int[] first = new int[MOST_STEPS];
        // The other PLACE of "sum", the STEP behind all those of "again".
        final int[] second = new int[MOST_STEPS];
        final int[] times = new int[MOST_STEPS];
        final int[] order = new int[MOST_STEPS_RUN];
        int steps = 0;
        int ran = 0;

        void forget() {
            steps = 0;
            ran = 0;
        }

        void put(int stepKind, int one, int two) {
            if (steps < MOST_STEPS) {
                kind[steps] = stepKind;
                first[steps] = one;
                second[steps] = two;
                steps++;
            }
        }

        void unrollAll() {
            ran = 0;
            for (int i = 0; i < MOST_STEPS; i++) {
                times[i] = 0;
            }
            unroll(0, steps, 0);
        }

        private void unroll(int from, int to, int depth) {
            int i = from;
            while (i < to && ran < MOST_STEPS_RUN) {
                if (kind[i] == STEP_AGAIN) {
                    repeat(i, depth + 1);
                    i = Math.max(i + 1, second[i]);
                } else {
                    order[ran] = i;
                    ran++;
                    times[i]++;
                    i++;
                }
            }
        }

        private void repeat(int again, int depth) {
            if (depth > DEEPEST) {
                return;
            }
            for (int t = 0; t < first[again]; t++) {
                int before = ran;
                unroll(again + 1, second[again], depth);
                if (ran == before) {
                    // Nothing runs in there, and nothing would the next time.
                    return;
                }
            }
        }

        /** The COST where no ADD changes what later STEPS cost: each as often as it runs. */
        long costByTimes(Cube c) {
            long all = 0;
            for (int i = 0; i < steps; i++) {
                all += (long) times[i] * costOfStep(c, i);
            }
            return all;
        }

        /** The COST where an ADD makes x USED, for the STEPS behind it; they are USED then. */
        long costByOrder(Cube c) {
            long all = 0;
            for (int t = 0; t < ran; t++) {
                int i = order[t];
                all += costOfStep(c, i);
                if (kind[i] == STEP_ADD && c.hasPlace(first[i])) {
                    c.use(first[i]);
                }
            }
            return all;
        }

        private int costOfStep(Cube c, int i) {
            if (kind[i] == STEP_AGAIN || !c.hasPlace(first[i])) {
                return 0;
            }
            if (kind[i] == STEP_ADD) {
                return c.form.writesAt(c, first[i]);
            }
            boolean box = c.hasPlace(second[i]) && c.hasBox(first[i], second[i]);
            return box ? c.readsOf(first[i], second[i]) : 0;
        }
    }

    /** The bytes that were fed, and the reading of a text or a MIX from them. */
    private static final class Tape {
        final byte[] bytes = new byte[MOST_BYTES];
        final int[] opened = new int[DEEPEST];
        int size = 0;
        private int end = 0;
        private int pos = 0;
        // Where the latest word or number begins.
        private int start = 0;
        private int depth = 0;
        int fault = 0;
        int faultPlace = NONE;

        boolean hasRoomForFive() {
            return size + 20 <= MOST_BYTES;
        }

        void put(int four) {
            for (int shift = 24; shift >= 0 && size < MOST_BYTES; shift -= 8) {
                bytes[size] = (byte) (four >> shift);
                size++;
            }
        }

        /** Reading begins; the tape is empty then, its bytes stay till they are read. */
        void open(int n) {
            end = n;
            pos = 0;
            depth = 0;
            size = 0;
            fault = 0;
            faultPlace = NONE;
        }

        private boolean failAt(int place, int why) {
            fault = why;
            faultPlace = place;
            return false;
        }

        private boolean atEnd() {
            while (pos < end && bytes[pos] == ' ') {
                pos++;
            }
            return pos >= end;
        }

        private boolean isNext(char sign) {
            return !atEnd() && bytes[pos] == sign;
        }

        private boolean isDigitNext() {
            return !atEnd() && bytes[pos] >= '0' && bytes[pos] <= '9';
        }

        /** Takes a sign, or fails. */
        private boolean takeSign(char sign) {
            if (!isNext(sign)) {
                return failAt(pos, FAULT_STANDS);
            }
            pos++;
            return true;
        }

        /** Takes a number; one that is too great for all that is asked for stays too great. */
        private int takeDigits() {
            start = pos;
            int number = 0;
            while (pos < end && bytes[pos] >= '0' && bytes[pos] <= '9') {
                number = (int) Math.min(MOST_VALUE + 1L, number * 10L + bytes[pos] - '0');
                pos++;
            }
            return number;
        }

        /** Takes a number from least to most, or fails and answers NONE. */
        private int takeNumber(int least, int most) {
            if (!isDigitNext()) {
                failAt(pos, FAULT_STANDS);
                return NONE;
            }
            int number = takeDigits();
            if (number < least || number > most) {
                failAt(start, FAULT_NUMBER);
                return NONE;
            }
            return number;
        }

        private void takeWord() {
            atEnd();
            start = pos;
            while (pos < end && bytes[pos] >= 'a' && bytes[pos] <= 'z') {
                pos++;
            }
        }

        private boolean wordIs(String word) {
            if (pos - start != word.length()) {
                return false;
            }
            for (int i = 0; i < word.length(); i++) {
                if (bytes[start + i] != word.charAt(i)) {
                    return false;
                }
            }
            return true;
        }

        private boolean takeWordOf(String word) {
            takeWord();
            return wordIs(word) || failAt(start, FAULT_STANDS);
        }

        /** Tells a cube anew, all but its edge; false, and the fault is told, if it can't be. */
        boolean readCube(Cube into) {
            if (!takeWordOf("sides") || !readLengths(into) || !takeSign(';')) {
                return false;
            }
            into.measure();
            into.clearValues();
            // A cell has more than one byte, so there are never as many as bytes.
            for (int cells = 0; cells < MOST_BYTES && !atEnd(); cells++) {
                if (!takeWordOf("cell") || !readCell(into)) {
                    return false;
                }
            }
            into.takeOn(Form.PLAIN);
            return true;
        }

        private boolean readLengths(Cube into) {
            int places = 1;
            for (int s = 0; s == 0 || s <= MOST_SIDES && isDigitNext(); s++) {
                int length = takeNumber(1, MOST_LENGTH);
                if (length == NONE) {
                    return false;
                }
                if (s == MOST_SIDES) {
                    return failAt(start, FAULT_FIFTH_SIDE);
                }
                places *= length;
                if (places > MOST_PLACES) {
                    return failAt(start, FAULT_PLACES);
                }
                into.length[s] = length;
                into.sides = s + 1;
            }
            return true;
        }

        private boolean readCell(Cube into) {
            int place = 0;
            for (int s = 0; s < into.sides; s++) {
                int x = takeNumber(0, into.length[s] - 1);
                if (x == NONE) {
                    return false;
                }
                place += x * into.stride[s];
            }
            if (!takeSign(':')) {
                return false;
            }
            boolean minus = isNext('-');
            if (minus) {
                pos++;
            }
            int value = takeNumber(0, MOST_VALUE);
            if (value == NONE) {
                return false;
            }
            into.values[place] = minus ? -value : value;
            return takeSign(';');
        }

        /** Reads the STEPS of a MIX; false, and the fault is told, if they can't be read. */
        boolean readMix(Mix into) {
            into.forget();
            // A step has more than one byte, so there are never as many as bytes.
            for (int i = 0; i < MOST_MIX_BYTES && !atEnd(); i++) {
                boolean good = depth > 0 && isNext(']') ? closeAgain(into) : readStep(into);
                if (!good) {
                    return false;
                }
            }
            return depth == 0 || failAt(end, FAULT_STANDS);
        }

        private boolean readStep(Mix into) {
            takeWord();
            int kind = kindOfWord();
            if (kind == STEP_NONE) {
                return failAt(start, FAULT_STANDS);
            }
            if (into.steps >= MOST_STEPS) {
                return failAt(start, FAULT_STEPS);
            }
            int one = takeNumber(0, kind == STEP_AGAIN ? MOST_TIMES : MOST_PLACES - 1);
            if (one == NONE) {
                return false;
            }
            if (kind == STEP_AGAIN) {
                return openAgain(into, one);
            }
            int two = kind == STEP_SUM ? takeNumber(0, MOST_PLACES - 1) : 0;
            if (two == NONE) {
                return false;
            }
            into.put(kind, one, two);
            return takeSign(';');
        }

        private int kindOfWord() {
            if (wordIs("add")) {
                return STEP_ADD;
            }
            if (wordIs("sum")) {
                return STEP_SUM;
            }
            return wordIs("again") ? STEP_AGAIN : STEP_NONE;
        }

        private boolean openAgain(Mix into, int times) {
            if (!takeSign('[')) {
                return false;
            }
            if (depth >= DEEPEST) {
                return failAt(pos - 1, FAULT_TOO_DEEP);
            }
            opened[depth] = into.steps;
            depth++;
            into.put(STEP_AGAIN, times, into.steps);
            return true;
        }

        private boolean closeAgain(Mix into) {
            pos++;
            depth--;
            into.second[opened[depth]] = into.steps;
            return takeSign(';');
        }
    }
}
