import java.util.Arrays;

/**
 * Boulders on a high field that by morning lie elsewhere: what wind, ice and wet did to them, and what
 * farmers who claimed that a neighbour pushed them owe back.
 */
public final class RolledStones {
    public static final int NONE = -1, BAD = -2, NO = -3, FULL = -4;

    private static final int SIDE = 12, CELLS = 144, STONES = 6, SHAPES = 5, WAYS = 4, FENCES = 4;
    private static final int NIGHTS = 20, FORCES = 100, ICES = 10, WEIGHTS = 99;
    private static final int MOST_PUSH = 891, MOST_STEPS = 9, MOST_FURROWS = 200;
    private static final int SEEDS = 1000000, SEED_SPAN = 99;
    private static final int WATCHED = 10, SPRING_NIGHTS = 8;
    private static final int BOOK = 200, TYPED = 8, FARMERS = 6, IMAGES = 2, COUNTS = 4, REASONS = 3;
    private static final int FAR_BAD = -10, FAR_NO = -20, NOT_SO_MANY = -5, ANYHOW = -6;
    private static final int MONEY_BAD = -1000000, MONEY_NO = -2000000;
    private static final int ROUND = 0, EGG = 1, FLAT = 2, SPLIT = 3, SUNK = 4;
    private static final int TO_THE_RIGHT = 1, TO_THE_LEFT = 2, STOPS = 3;
    private static final int ALL_STONES = (1 << STONES) - 1;

    private final Field field = new Field();
    private final Field[] images = new Field[IMAGES];
    private final int[] refused = new int[REASONS];
    private final Walk walk = new Walk();
    private final Nights trial = new Nights();
    private final int[] ahead = new int[STONES];
    private final boolean[] fits = new boolean[MOST_PUSH + 1];
    private final int[] fitting = new int[WAYS];
    private int firstFitting = NONE;
    private final long[] chance = new long[CELLS];
    private final long[] later = new long[CELLS];
    private final Reader reader = new Reader();
    private final Ledger ledger = new Ledger();
    private long above = 0;
    private long below = 1;

    public RolledStones() {
    }

    // ---- a field, nights

    public int stone(int shape, int cell, int weight) {
        if (!within(shape, SHAPES) || !within(cell, CELLS) || weight < 1 || weight > WEIGHTS) {
            return refuse(BAD, BAD);
        }
        if (field.isFirstCell(cell) || field.stakeIn[cell] == 1) {
            return refuse(BAD, BAD);
        }
        if (field.stones >= STONES) {
            return refuse(FULL, FULL);
        }
        return field.addStone(shape, cell, weight);
    }

    public int fence(int cell, int kind) {
        if (!within(cell, CELLS) || !within(kind, FENCES)) {
            return refuse(BAD, BAD);
        }
        int before = field.fenceIn[cell];
        field.fenceIn[cell] = kind;
        return before;
    }

    public int stake(int cell, boolean is) {
        if (!within(cell, CELLS) || field.isFirstCell(cell)) {
            return refuse(BAD, BAD);
        }
        int wanted = is ? 1 : 0;
        if (field.stakeIn[cell] == wanted) {
            return refuse(NO, NO);
        }
        field.stakeIn[cell] = wanted;
        return 1;
    }

    public int night(int n, int way, int force, int ice, boolean wet) {
        if (!within(n, NIGHTS) || !within(way, WAYS) || !within(force, FORCES) || !within(ice, ICES)) {
            return refuse(BAD, BAD);
        }
        field.nights.tell(n, way, force, ice, wet ? 1 : 0);
        return 1;
    }

    public int draw(int seed) {
        if (!within(seed, SEEDS)) {
            return refuse(BAD, BAD);
        }
        field.nights.drawBy(seed);
        return 1;
    }

    public int weather(int n, int what) {
        if (!within(n, NIGHTS) || !within(what, 4)) {
            return refuse(BAD, BAD);
        }
        switch (what) {
            case 0: return field.nights.wayOf[n];
            case 1: return field.nights.forceOf[n];
            case 2: return field.nights.iceOf[n];
            default: return field.nights.wetOf[n];
        }
    }

    public int need(int stone, int way) {
        if (!isStone(stone) || !within(way, WAYS)) {
            return refuse(BAD, BAD);
        }
        return field.needs[WAYS * stone + way];
    }

    // ---- what came of it

    public int lies(int stone, int k) {
        if (!isStone(stone) || !isBehind(k)) {
            return refuse(BAD, BAD);
        }
        walkAll(k);
        return walk.at[stone];
    }

    public int moved(int k) {
        if (!within(k, NIGHTS)) {
            return refuse(BAD, BAD);
        }
        walkAll(k);
        return walk.movedIn[k];
    }

    public int work(int stone, int k) {
        if (!isStone(stone) || !isBehind(k)) {
            return refuse(BAD, BAD);
        }
        walkAll(k);
        return walk.stepsOf(stone);
    }

    public int tracks(int cell, int k, int i) {
        if (!within(cell, CELLS) || !isBehind(k) || i < NONE) {
            return refuse(BAD, FAR_BAD);
        }
        walkAll(k);
        if (i == NONE) {
            return walk.furrowsFrom(cell, field.nights);
        }
        int mark = walk.furrowFrom(cell, field.nights, i);
        return mark == NONE ? NOT_SO_MANY : mark;
    }

    public int which(int stone, int cell, int way, int k) {
        if (!isStone(stone) || !within(cell, CELLS) || !within(way, WAYS) || !isBehind(k)) {
            return refuse(BAD, BAD);
        }
        walkAll(k);
        return walk.nightsOfStep(stone, cell, way);
    }

    public int found(int k, int stone, int cell) {
        if (!within(k, NIGHTS) || !isStone(stone) || !within(cell, CELLS)) {
            return refuse(BAD, BAD);
        }
        field.tellFound(k, stone, cell);
        return 1;
    }

    public int proof() {
        walkAll(field.foundNight);
        return field.foundElsewhere(walk.at);
    }

    public int watch(int k) {
        if (!within(k, WATCHED)) {
            return refuse(BAD, BAD);
        }
        walkAll(k);
        int all = walk.movedAmong((1 << (k + 1)) - 1);
        int best = NONE;
        for (int nights = 0; nights < 1 << (k + 1); nights++) {
            boolean fewer = best == NONE || Integer.bitCount(nights) < Integer.bitCount(best);
            if (fewer && walk.movedAmong(nights) == all) {
                best = nights;
            }
        }
        return best;
    }

    public int hold(int stone, int k) {
        if (!isStone(stone) || !isBehind(k)) {
            return refuse(BAD, FAR_BAD);
        }
        int home = field.firstCell[stone];
        walkAll(k);
        if (walk.at[stone] == home) {
            return ANYHOW;
        }
        // A stake where no stone ever comes changes nothing, so only cells come to are tried.
        boolean[] come = walk.keepCellsComeTo();
        for (int cell = 0; cell < CELLS; cell++) {
            if (come[cell] && field.stakeIn[cell] == 0 && !field.isFirstCell(cell)
                    && cellWithStake(cell, stone, k) == home) {
                return cell;
            }
        }
        return NONE;
    }

    public int spring(int stone, int n, int force, int ice, int cell) {
        if (!isStone(stone) || !within(n, SPRING_NIGHTS + 1) || !within(force, FORCES)
                || !within(ice, ICES) || !within(cell, CELLS)) {
            return refuse(BAD, BAD);
        }
        Arrays.fill(chance, 0L);
        chance[field.firstCell[stone]] = 1;
        long all = 1;
        for (int night = 0; night < n; night++) {
            spread(stone, force * ice);
            all *= WAYS;
        }
        setFraction(chance[cell], all);
        return 1;
    }

    public int alone(int stone, int k, int what) {
        if (!isStone(stone) || !isBehind(k) || !within(what, 2)) {
            return refuse(BAD, BAD);
        }
        walk.start(field, 1 << stone, field.firstCell);
        walk.go(field.nights, 0, k);
        return what == 0 ? walk.at[stone] : walk.stepsOf(stone);
    }

    public int met(int n) {
        if (!within(n, NIGHTS)) {
            return refuse(BAD, BAD);
        }
        walkAll(n);
        return walk.metIn[n];
    }

    public int steer(int stone, int cell, int k) {
        if (!isStone(stone) || !within(cell, CELLS) || !isBehind(k)) {
            return refuse(BAD, FAR_BAD);
        }
        walkAll(k);
        boolean anyhow = walk.at[stone] == cell;
        // A fence where no stone ever comes changes nothing.
        boolean[] come = walk.keepCellsComeTo();
        for (int fenced = 0; fenced < CELLS; fenced++) {
            if (field.stakeIn[fenced] == 1) {
                continue;
            }
            for (int kind = TO_THE_RIGHT; kind <= STOPS; kind++) {
                boolean there = come[fenced] ? cellWithFence(fenced, kind, stone, k) == cell : anyhow;
                if (there) {
                    return 10 * fenced + kind;
                }
            }
        }
        return NONE;
    }

    public int guess(int n, int what) {
        if (!within(n, NIGHTS) || !within(what, 2)) {
            return refuse(BAD, FAR_BAD);
        }
        if (field.foundNight == NONE) {
            return refuse(NO, FAR_NO);
        }
        int all = tryAllWeather(n);
        return what == 0 ? all : firstFitting;
    }

    public int guessWay(int n, int way) {
        if (!within(n, NIGHTS) || !within(way, WAYS)) {
            return refuse(BAD, BAD);
        }
        if (field.foundNight == NONE) {
            return refuse(NO, NO);
        }
        int all = tryAllWeather(n);
        if (all == 0) {
            return refuse(NO, NO);
        }
        setFraction(fitting[way], all);
        return 1;
    }

    public int seeds(int a, int n) {
        if (!within(a, SEEDS) || !within(n, SEED_SPAN + 1)) {
            return refuse(BAD, FAR_BAD);
        }
        if (field.foundNight == NONE) {
            return refuse(NO, FAR_NO);
        }
        for (int seed = a; seed <= a + n && seed < SEEDS; seed++) {
            trial.drawBy(seed);
            walk.start(field, ALL_STONES, field.firstCell);
            walk.go(trial, 0, field.foundNight);
            if (field.foundElsewhere(walk.at) == 0) {
                return seed;
            }
        }
        return NONE;
    }

    // ---- claims

    public int type(long v, int n) {
        if (n < 1 || n > TYPED) {
            return refuse(BAD, BAD);
        }
        if (field.bookLength + n > BOOK) {
            return refuse(FULL, FULL);
        }
        for (int i = n - 1; i >= 0; i--) {
            field.book[field.bookLength] = (int) (v >> (8 * i)) & 255;
            field.bookLength++;
        }
        return field.bookLength;
    }

    public int clear() {
        int had = field.bookLength;
        field.bookLength = 0;
        return had;
    }

    public int fault() {
        return reader.read(field, ledger);
    }

    public int claims(int what) {
        if (!within(what, 3)) {
            return refuse(BAD, BAD);
        }
        if (!settle()) {
            return refuse(NO, NO);
        }
        switch (what) {
            case 0: return ledger.claimed;
            case 1: return ledger.claimed - ledger.unsure;
            default: return ledger.unsure;
        }
    }

    public int owed(int by, int to) {
        if (!within(by, FARMERS) || !within(to, FARMERS) || by == to) {
            return refuse(BAD, MONEY_BAD);
        }
        if (!settle()) {
            return refuse(NO, MONEY_NO);
        }
        return ledger.debt(by, to);
    }

    public int net(int farmer) {
        if (!within(farmer, FARMERS)) {
            return refuse(BAD, MONEY_BAD);
        }
        if (!settle()) {
            return refuse(NO, MONEY_NO);
        }
        return ledger.balance(farmer);
    }

    public int fewest() {
        if (!settle()) {
            return refuse(NO, NO);
        }
        return ledger.fewestPayments();
    }

    // ---- what there is

    public long part(int what) {
        if (!within(what, 2)) {
            return refuse(BAD, BAD);
        }
        return what == 0 ? above : below;
    }

    public int image(int i) {
        if (!within(i, IMAGES)) {
            return refuse(BAD, BAD);
        }
        if (images[i] == null) {
            images[i] = new Field();
        }
        images[i].copyOf(field);
        return 1;
    }

    public int from(int i) {
        if (!within(i, IMAGES)) {
            return refuse(BAD, BAD);
        }
        if (images[i] == null) {
            return refuse(NO, NO);
        }
        field.copyOf(images[i]);
        return 1;
    }

    public int status(int what) {
        if (!within(what, REASONS)) {
            return refuse(BAD, NONE);
        }
        return refused[what];
    }

    public int count(int what) {
        if (!within(what, COUNTS)) {
            return refuse(BAD, BAD);
        }
        return field.howMany(what);
    }

    public long digest() {
        long h = field.digestBehind(641);
        return 31 * (31 * h + above) + below;
    }

    // ---- helpers

    private static boolean within(int v, int bound) {
        return v >= 0 && v < bound;
    }

    private boolean isStone(int stone) {
        return within(stone, field.stones);
    }

    /** Behind which night: -1 is ahead of all of them. */
    private static boolean isBehind(int k) {
        return k >= NONE && k < NIGHTS;
    }

    private int refuse(int reason, int answer) {
        switch (reason) {
            case BAD: refused[0]++; break;
            case NO: refused[1]++; break;
            default: refused[2]++; break;
        }
        return answer;
    }

    private void walkAll(int k) {
        walk.start(field, ALL_STONES, field.firstCell);
        walk.go(field.nights, 0, k);
    }

    private int cellWithStake(int cell, int stone, int k) {
        field.stakeIn[cell] = 1;
        walkAll(k);
        field.stakeIn[cell] = 0;
        return walk.at[stone];
    }

    private int cellWithFence(int cell, int kind, int stone, int k) {
        int before = field.fenceIn[cell];
        field.fenceIn[cell] = kind;
        walkAll(k);
        field.fenceIn[cell] = before;
        return walk.at[stone];
    }

    /** One more night of spring: every chance goes on by each of the ways. */
    private void spread(int stone, int push) {
        Arrays.fill(later, 0L);
        for (int cell = 0; cell < CELLS; cell++) {
            if (chance[cell] == 0) {
                continue;
            }
            for (int way = 0; way < WAYS; way++) {
                int rest = walk.loneRoll(field, stone, cell, way, push);
                if (within(rest, CELLS)) {
                    later[rest] += chance[cell];
                }
            }
        }
        System.arraycopy(later, 0, chance, 0, CELLS);
    }

    /** How many kinds of weather in night n lead to what was found; fills fitting and firstFitting. */
    private int tryAllWeather(int n) {
        int all = 0;
        firstFitting = NONE;
        trial.copyOf(field.nights);
        walkAll(Math.min(n - 1, field.foundNight));
        System.arraycopy(walk.at, 0, ahead, 0, STONES);
        for (int way = 0; way < WAYS; way++) {
            for (int push = 0; push <= MOST_PUSH; push++) {
                // A push by which every stone does as by the one below it needs no walk of its own.
                boolean alike = push > 0 && field.alikeBy(push - 1, push, way);
                fits[push] = alike ? fits[push - 1] : pushFits(n, way, push);
            }
            fitting[way] = countFitting(way);
            all += fitting[way];
        }
        return all;
    }

    private boolean pushFits(int n, int way, int push) {
        trial.tell(n, way, push, 1, 0);
        walk.start(field, ALL_STONES, ahead);
        walk.go(trial, n, field.foundNight);
        return field.foundElsewhere(walk.at) == 0;
    }

    private int countFitting(int way) {
        int fit = 0;
        for (int force = 0; force < FORCES; force++) {
            for (int ice = 0; ice < ICES; ice++) {
                if (!fits[force * ice]) {
                    continue;
                }
                fit++;
                if (firstFitting == NONE) {
                    firstFitting = 1000 * way + 10 * force + ice;
                }
            }
        }
        return fit;
    }

    /** Reads the book and judges its claims; false if it has a fault. */
    private boolean settle() {
        if (reader.read(field, ledger) != NONE) {
            return false;
        }
        // A claim about a night behind which nothing was found is wrong anyhow, so the walk may end there.
        walkAll(field.foundNight);
        ledger.judge(field.foundNight, field.foundElsewhere(walk.at), walk.movedIn);
        return true;
    }

    private void setFraction(long over, long under) {
        long divisor = commonDivisor(over, under);
        if (divisor == 0) {
            return;
        }
        above = over / divisor;
        below = under / divisor;
    }

    private static long commonDivisor(long a, long b) {
        for (int turn = 0; turn < 100 && b != 0; turn++) {
            long rest = a % b;
            a = b;
            b = rest;
        }
        return a;
    }

    /** The weather of all nights. */
    private static final class Nights {
        final int[] wayOf = new int[NIGHTS];
        final int[] forceOf = new int[NIGHTS];
        final int[] iceOf = new int[NIGHTS];
        final int[] wetOf = new int[NIGHTS];

        void tell(int n, int way, int force, int ice, int wet) {
            wayOf[n] = way;
            forceOf[n] = force;
            iceOf[n] = ice;
            wetOf[n] = wet;
        }

        void drawBy(int seed) {
            long x = seed;
            for (int n = 0; n < NIGHTS; n++) {
                x = drawnAfter(x);
                wayOf[n] = figureOf(x, WAYS);
                x = drawnAfter(x);
                forceOf[n] = figureOf(x, FORCES);
                x = drawnAfter(x);
                iceOf[n] = figureOf(x, ICES);
                x = drawnAfter(x);
                wetOf[n] = figureOf(x, 2);
            }
        }

        private static long drawnAfter(long x) {
            return (x * 1103515245L + 12345L) % 2147483648L;
        }

        private static int figureOf(long x, int bound) {
            return bound <= 0 ? 0 : (int) (x / 65536L % bound);
        }

        int pushOf(int n) {
            return forceOf[n] * iceOf[n];
        }

        void copyOf(Nights other) {
            System.arraycopy(other.wayOf, 0, wayOf, 0, NIGHTS);
            System.arraycopy(other.forceOf, 0, forceOf, 0, NIGHTS);
            System.arraycopy(other.iceOf, 0, iceOf, 0, NIGHTS);
            System.arraycopy(other.wetOf, 0, wetOf, 0, NIGHTS);
        }
    }

    /** All that an image keeps: stones, fences, stakes, nights, the book, what was found. */
    private static final class Field {
        int stones = 0;
        final int[] shapeOf = new int[STONES];
        final int[] firstCell = new int[STONES];
        final int[] weightOf = new int[STONES];
        final int[] needs = new int[STONES * WAYS];
        final int[] fenceIn = new int[CELLS];
        final int[] stakeIn = new int[CELLS];
        final Nights nights = new Nights();
        final int[] book = new int[BOOK];
        int bookLength = 0;
        int foundNight = NONE;
        final int[] foundCell = new int[STONES];

        Field() {
            Arrays.fill(foundCell, NONE);
        }

        boolean isFirstCell(int cell) {
            for (int stone = 0; stone < stones; stone++) {
                if (firstCell[stone] == cell) {
                    return true;
                }
            }
            return false;
        }

        int addStone(int shape, int cell, int weight) {
            shapeOf[stones] = shape;
            firstCell[stones] = cell;
            weightOf[stones] = weight;
            for (int way = 0; way < WAYS; way++) {
                needs[WAYS * stones + way] = needBy(shape, weight, way);
            }
            stones++;
            return stones - 1;
        }

        private static int needBy(int shape, int weight, int way) {
            int round = 4 * weight;
            int flat = 3 * round;
            switch (shape) {
                case EGG: return way % 2 == 1 ? 2 * round : round;
                case FLAT: return flat;
                case SPLIT: return flat / 2;
                case SUNK: return flat / 2 + 40;
                case ROUND:
                default: return round;
            }
        }

        /** How many steps a push by the wind gives a stone; 0: it stays. */
        int stepsBy(int stone, int way, int push) {
            int over = push - needs[WAYS * stone + way];
            if (over < 0) {
                return 0;
            }
            int more = over / Math.max(1, 4 * weightOf[stone]);
            return Math.min(MOST_STEPS, 1 + more);
        }

        /** Whether no stone can tell these two pushes apart by a wind's way, or by a way it is turned to. */
        boolean alikeBy(int push, int other, int way) {
            for (int stone = 0; stone < stones; stone++) {
                int across = needs[WAYS * stone + (way + 1) % WAYS];
                if (stepsBy(stone, way, push) != stepsBy(stone, way, other)
                        || (push >= across) != (other >= across)) {
                    return false;
                }
            }
            return true;
        }

        void tellFound(int k, int stone, int cell) {
            if (k != foundNight) {
                Arrays.fill(foundCell, NONE);
                foundNight = k;
            }
            foundCell[stone] = cell;
        }

        /** Bits of the stones that were found elsewhere than where they lie. */
        int foundElsewhere(int[] at) {
            int bits = 0;
            for (int stone = 0; stone < stones; stone++) {
                if (foundCell[stone] != NONE && foundCell[stone] != at[stone]) {
                    bits |= 1 << stone;
                }
            }
            return bits;
        }

        int howMany(int what) {
            switch (what) {
                case 0: return stones;
                case 1: return stakesThere();
                case 2: return bookLength;
                default: return stonesFound();
            }
        }

        private int stakesThere() {
            int there = 0;
            for (int cell = 0; cell < CELLS; cell++) {
                there += stakeIn[cell];
            }
            return there;
        }

        private int stonesFound() {
            int some = 0;
            for (int stone = 0; stone < stones; stone++) {
                if (foundCell[stone] != NONE) {
                    some++;
                }
            }
            return some;
        }

        long digestBehind(long h) {
            for (int what = 0; what < COUNTS; what++) {
                h = 31 * h + howMany(what);
            }
            for (int stone = 0; stone < stones; stone++) {
                h = 31 * h + shapeOf[stone];
                h = 31 * h + firstCell[stone];
                h = 31 * h + weightOf[stone];
            }
            for (int cell = 0; cell < CELLS; cell++) {
                h = 31 * h + fenceIn[cell];
                h = 31 * h + stakeIn[cell];
            }
            for (int n = 0; n < NIGHTS; n++) {
                h = 31 * h + nights.wayOf[n];
                h = 31 * h + nights.forceOf[n];
                h = 31 * h + nights.iceOf[n];
                h = 31 * h + nights.wetOf[n];
            }
            for (int i = 0; i < bookLength; i++) {
                h = 31 * h + book[i];
            }
            h = 31 * h + foundNight;
            for (int stone = 0; stone < stones; stone++) {
                h = 31 * h + foundCell[stone];
            }
            return h;
        }

        void copyOf(Field other) {
            stones = other.stones;
            System.arraycopy(other.shapeOf, 0, shapeOf, 0, STONES);
            System.arraycopy(other.firstCell, 0, firstCell, 0, STONES);
            System.arraycopy(other.weightOf, 0, weightOf, 0, STONES);
            System.arraycopy(other.needs, 0, needs, 0, STONES * WAYS);
            System.arraycopy(other.fenceIn, 0, fenceIn, 0, CELLS);
            System.arraycopy(other.stakeIn, 0, stakeIn, 0, CELLS);
            nights.copyOf(other.nights);
            System.arraycopy(other.book, 0, book, 0, BOOK);
            bookLength = other.bookLength;
            foundNight = other.foundNight;
            System.arraycopy(other.foundCell, 0, foundCell, 0, STONES);
        }
    }

    /** Stones as they roll through nights, with a log of every step. */
    private static final class Walk {
        private static final int LOG = NIGHTS * STONES * MOST_STEPS;
        // Between two steps a push is handed on along one line, so to each other stone once at most.
        private static final int MOST_TRIES = (MOST_STEPS + 1) * STONES;

        final int[] at = new int[STONES];
        final int[] movedIn = new int[NIGHTS];
        final int[] metIn = new int[NIGHTS];
        private final int[] atDusk = new int[STONES];
        private final int[] stepFrom = new int[LOG];
        private final int[] stepMark = new int[LOG];
        private int steps = 0;
        private final boolean[] come = new boolean[CELLS];
        private Field on = null;
        private int present = 0;
        private int night = 0;
        private int wind = 0;
        private int push = 0;

        /** Only the stones whose bits are set are on the field. */
        void start(Field field, int stones, int[] cells) {
            on = field;
            present = stones & ((1 << field.stones) - 1);
            steps = 0;
            System.arraycopy(cells, 0, at, 0, STONES);
        }

        void go(Nights nights, int first, int last) {
            for (int n = Math.max(0, first); n <= last && n < NIGHTS; n++) {
                night = n;
                wind = nights.wayOf[n];
                push = nights.pushOf(n);
                passNight();
            }
        }

        private void passNight() {
            System.arraycopy(at, 0, atDusk, 0, STONES);
            metIn[night] = 0;
            for (int stone = 0; stone < STONES; stone++) {
                if (isPresent(stone)) {
                    roll(stone);
                }
            }
            movedIn[night] = 0;
            for (int stone = 0; stone < STONES; stone++) {
                if (at[stone] != atDusk[stone]) {
                    movedIn[night] |= 1 << stone;
                }
            }
        }

        /** Where a stone, alone on the field, comes to rest from a cell by one wind. */
        int loneRoll(Field field, int stone, int cell, int way, int force) {
            on = field;
            present = 1 << stone;
            steps = 0;
            at[stone] = cell;
            night = 0;
            wind = way;
            push = force;
            roll(stone);
            return at[stone];
        }

        private boolean isPresent(int stone) {
            return (present >> stone & 1) == 1;
        }

        private void roll(int first) {
            if (on == null) {
                return;
            }
            int stone = first;
            int way = wind;
            int left = on.stepsBy(stone, way, push);
            for (int tries = 0; left > 0 && tries < MOST_TRIES; tries++) {
                int next = nextCell(at[stone], way);
                if (!within(next, CELLS) || on.stakeIn[next] == 1) {
                    return;
                }
                int other = stoneIn(next);
                if (other == NONE) {
                    log(at[stone], stone, way);
                    at[stone] = next;
                    left = on.fenceIn[next] == STOPS ? 0 : left - 1;
                    way = turned(way, on.fenceIn[next]);
                } else if (push >= on.needs[WAYS * other + way]) {
                    metIn[night] |= 1 << other;
                    stone = other;
                } else {
                    return;
                }
            }
        }

        private static int turned(int way, int kind) {
            switch (kind) {
                case TO_THE_RIGHT: return (way + 1) % WAYS;
                case TO_THE_LEFT: return (way + 3) % WAYS;
                default: return way;
            }
        }

        private static int nextCell(int cell, int way) {
            int column = cell % SIDE;
            switch (way) {
                case 0: return cell < SIDE ? NONE : cell - SIDE;
                case 1: return column == SIDE - 1 ? NONE : cell + 1;
                case 2: return cell >= CELLS - SIDE ? NONE : cell + SIDE;
                default: return column == 0 ? NONE : cell - 1;
            }
        }

        private int stoneIn(int cell) {
            for (int stone = 0; stone < STONES; stone++) {
                if (isPresent(stone) && at[stone] == cell) {
                    return stone;
                }
            }
            return NONE;
        }

        private void log(int cell, int stone, int way) {
            if (steps < LOG) {
                stepFrom[steps] = cell;
                stepMark[steps] = 100 * night + 10 * stone + way;
                steps++;
            }
        }

        private int nightOf(int step) {
            return stepMark[step] / 100;
        }

        private int stoneOf(int step) {
            return stepMark[step] / 10 % 10;
        }

        private int wayOfStep(int step) {
            return stepMark[step] % 10;
        }

        int stepsOf(int stone) {
            int went = 0;
            for (int step = 0; step < steps; step++) {
                if (stoneOf(step) == stone) {
                    went++;
                }
            }
            return went;
        }

        int nightsOfStep(int stone, int cell, int way) {
            int bits = 0;
            for (int step = 0; step < steps; step++) {
                if (stepFrom[step] == cell && stoneOf(step) == stone && wayOfStep(step) == way) {
                    bits |= 1 << nightOf(step);
                }
            }
            return bits;
        }

        int furrowsFrom(int cell, Nights nights) {
            int kept = 0;
            int lead = 0;
            for (int step = 0; step < steps && kept < MOST_FURROWS; step++) {
                if (nights.wetOf[nightOf(step)] == 1) {
                    kept++;
                    lead += stepFrom[step] == cell ? 1 : 0;
                }
            }
            return lead;
        }

        /** The i-th furrow that leads from a cell, or NONE. */
        int furrowFrom(int cell, Nights nights, int i) {
            int kept = 0;
            int lead = 0;
            for (int step = 0; step < steps && kept < MOST_FURROWS; step++) {
                if (nights.wetOf[nightOf(step)] == 0) {
                    continue;
                }
                kept++;
                if (stepFrom[step] == cell) {
                    if (lead == i) {
                        return stepMark[step];
                    }
                    lead++;
                }
            }
            return NONE;
        }

        /** Bits of the stones that moved in some of these nights. */
        int movedAmong(int nights) {
            int bits = 0;
            for (int n = 0; n < NIGHTS; n++) {
                if ((nights >> n & 1) == 1) {
                    bits |= movedIn[n];
                }
            }
            return bits;
        }

        /** The cells that steps led to; later walks leave them as they are. */
        boolean[] keepCellsComeTo() {
            for (int cell = 0; cell < CELLS; cell++) {
                come[cell] = false;
            }
            for (int step = 0; step < steps; step++) {
                int next = nextCell(stepFrom[step], wayOfStep(step));
                if (within(next, CELLS)) {
                    come[next] = true;
                }
            }
            return come;
        }
    }

    /** Reads the book's tokens, and hands its items to a ledger. */
    private static final class Reader {
        private static final int END = 0, CLAIM = 1, BACK = 2, NUMBER = 3, ITEM_END = 4, WRONG_TOKEN = 5;
        private static final int NUMBERS = 5;

        private final int[] numbers = new int[NUMBERS];
        private Field in = null;
        private int place = 0;
        private int start = 0;
        private int value = 0;

        /** The place of the first fault, or NONE. */
        int read(Field field, Ledger ledger) {
            in = field;
            place = 0;
            ledger.begin();
            for (int items = 0; items <= BOOK; items++) {
                int word = nextToken();
                if (word == END) {
                    return NONE;
                }
                if (word != CLAIM && word != BACK) {
                    return start;
                }
                int wrong = readItem(word);
                if (wrong != NONE) {
                    return wrong;
                }
                if (word == CLAIM) {
                    ledger.addClaim(numbers);
                } else {
                    ledger.giveBack(numbers[0], numbers[1], numbers[2]);
                }
            }
            return NONE;
        }

        /** What follows an item's word, up to its end. */
        private int readItem(int word) {
            int wanted = word == CLAIM ? NUMBERS : 3;
            for (int i = 0; i < wanted; i++) {
                if (nextToken() != NUMBER || !numberFits(word, i)) {
                    return start;
                }
                numbers[i] = value;
            }
            return nextToken() == ITEM_END ? NONE : start;
        }

        private boolean numberFits(int word, int i) {
            switch (i) {
                case 0: return value < FARMERS;
                case 1: return value < FARMERS && value != numbers[0];
                case 2: return word == BACK || value < NIGHTS;
                case 3: return in != null && value < in.stones;
                default: return true;
            }
        }

        /** At the end of the text its start is the text's length. */
        private int nextToken() {
            skip(' ', ' ');
            start = place;
            if (!stands(0, 255)) {
                return END;
            }
            if (stands('a', 'z')) {
                skip('a', 'z');
                return wordsKind();
            }
            if (stands('0', '9')) {
                skip('0', '9');
                return numbersKind();
            }
            boolean ends = stands(';', ';');
            place++;
            return ends ? ITEM_END : WRONG_TOKEN;
        }

        private boolean stands(int low, int high) {
            return in != null && place < in.bookLength && place < BOOK
                    && in.book[place] >= low && in.book[place] <= high;
        }

        private void skip(int low, int high) {
            for (int i = 0; i < BOOK && stands(low, high); i++) {
                place++;
            }
        }

        private int wordsKind() {
            if (isWord("claim")) {
                return CLAIM;
            }
            return isWord("back") ? BACK : WRONG_TOKEN;
        }

        private boolean isWord(String word) {
            if (in == null || place - start != word.length()) {
                return false;
            }
            for (int i = 0; i < word.length(); i++) {
                if (in.book[start + i] != word.charAt(i)) {
                    return false;
                }
            }
            return true;
        }

        private int numbersKind() {
            if (in == null || place - start > 2) {
                return WRONG_TOKEN;
            }
            value = 0;
            for (int i = start; i < place; i++) {
                value = 10 * value + in.book[i] - '0';
            }
            return NUMBER;
        }
    }

    /** The book's claims, judged, and what farmers owe one another by them. */
    private static final class Ledger {
        // A claim takes 15 bytes at least: claim0 1 2 3 4;
        private static final int CLAIMS = BOOK / 15 + 1;
        private static final int GROUPS = 1 << FARMERS;

        int claimed = 0;
        int unsure = 0;
        private final int[] by = new int[CLAIMS];
        private final int[] against = new int[CLAIMS];
        private final int[] nightOf = new int[CLAIMS];
        private final int[] stoneOf = new int[CLAIMS];
        private final int[] sumOf = new int[CLAIMS];
        private final int[] given = new int[FARMERS * FARMERS];
        private final int[] debts = new int[FARMERS * FARMERS];
        private final int[] groupSum = new int[GROUPS];
        private final int[] evenGroups = new int[GROUPS];

        void begin() {
            claimed = 0;
            unsure = 0;
            Arrays.fill(given, 0);
        }

        void addClaim(int[] numbers) {
            if (claimed >= CLAIMS || numbers.length < 5) {
                return;
            }
            by[claimed] = numbers[0];
            against[claimed] = numbers[1];
            nightOf[claimed] = numbers[2];
            stoneOf[claimed] = numbers[3];
            sumOf[claimed] = numbers[4];
            claimed++;
        }

        void giveBack(int giver, int taker, int sum) {
            given[FARMERS * giver + taker] += sum;
        }

        /** By the night behind which stones were found, those found elsewhere, and what moved in each night. */
        void judge(int foundNight, int elsewhere, int[] movedIn) {
            unsure = 0;
            for (int pair = 0; pair < FARMERS * FARMERS; pair++) {
                debts[pair] = -given[pair];
            }
            for (int claim = 0; claim < claimed; claim++) {
                int stone = stoneOf[claim];
                int night = nightOf[claim];
                if (night <= foundNight && (elsewhere >> stone & 1) == 1 && (movedIn[night] >> stone & 1) == 0) {
                    unsure++;
                } else {
                    debts[FARMERS * by[claim] + against[claim]] += sumOf[claim];
                }
            }
        }

        int debt(int from, int to) {
            return debts[FARMERS * from + to];
        }

        int balance(int farmer) {
            int sum = 0;
            for (int other = 0; other < FARMERS; other++) {
                if (other != farmer) {
                    sum += debt(other, farmer) - debt(farmer, other);
                }
            }
            return sum;
        }

        /** A group that is even in itself takes one payment less than it has farmers: as many groups as can be. */
        int fewestPayments() {
            groupSum[0] = 0;
            evenGroups[0] = 0;
            for (int group = 1; group < GROUPS; group++) {
                int last = Integer.numberOfTrailingZeros(group);
                groupSum[group] = groupSum[group ^ 1 << last] + balance(last);
                int most = 0;
                for (int farmer = 0; farmer < FARMERS; farmer++) {
                    if ((group >> farmer & 1) == 1) {
                        most = Math.max(most, evenGroups[group ^ 1 << farmer]);
                    }
                }
                evenGroups[group] = most + (groupSum[group] == 0 ? 1 : 0);
            }
            return FARMERS - evenGroups[GROUPS - 1];
        }
    }
}
