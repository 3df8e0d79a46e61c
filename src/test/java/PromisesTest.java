import java.util.Arrays;

/** For each promise of the document, answers worked out by hand: ordinary ones, edges, refusals. */
public final class PromisesTest {
    private static final int BIG = Integer.MAX_VALUE, SMALL = Integer.MIN_VALUE;
    private static int wrong = 0;
    private static int promise = 0;

    private static void due(String what, long got, long want) {
        if (got != want) {
            wrong++;
            System.out.println("promise " + promise + ": " + what + " answered " + got + ", due is " + want);
        }
    }

    /** Each of these was refused as BAD, and as nothing else. */
    private static void allRefused(RolledStones x, String what, long answer, long... got) {
        for (int i = 0; i < got.length; i++) {
            due(what + ", refusal " + i, got[i], answer);
        }
    }

    public static void main(String[] args) {
        promise1NewObject();
        promise2Stone();
        promise3Fence();
        promise4Stake();
        promise5Night();
        promise6Draw();
        promise7Weather();
        promise8Need();
        promise9Lies();
        promise9Meeting();
        promise10Moved();
        promise11Work();
        promise12Tracks();
        promise13Which();
        promise14Found();
        promise15Proof();
        promise16Watch();
        promise17Hold();
        promise18Spring();
        promise19Alone();
        promise20Met();
        promise21Steer();
        promise22Guess();
        promise23GuessWay();
        promise24Seeds();
        promise25Type();
        promise26Clear();
        promise27Fault();
        promise28Claims();
        promise29Owed();
        promise30Net();
        promise31Fewest();
        promise32Part();
        promise33Image();
        promise34From();
        promise35Status();
        promise36Count();
        promise37Digest();
        System.out.println(wrong == 0 ? "all promises hold" : wrong + " answers are not as due");
        if (wrong != 0) {
            System.exit(1);
        }
    }

    // ---- what the tests share

    private static void typeText(RolledStones x, String text) {
        for (int at = 0; at < text.length(); at += 8) {
            String piece = text.substring(at, Math.min(text.length(), at + 8));
            long v = 0;
            for (char c : piece.toCharArray()) {
                v = v << 8 | c;
            }
            x.type(v, piece.length());
        }
    }

    private static int faultOf(RolledStones x, String text) {
        x.clear();
        typeText(x, text);
        return x.fault();
    }

    /** One stone of weight 1, and a wind by which it rolls nine steps in night 0. */
    private static RolledStones light(int cell, int way) {
        RolledStones x = new RolledStones();
        x.stone(0, cell, 1);
        x.night(0, way, 99, 9, false);
        return x;
    }

    private static long digestOf(long... row) {
        long h = 641;
        for (long v : row) {
            h = 31 * h + v;
        }
        return h;
    }

    /** Four counts, 144 cells twice, 20 nights four times, the night found, and the fraction. */
    private static long newDigest() {
        long[] row = new long[4 + 288 + 80 + 1 + 2];
        row[372] = -1;
        row[374] = 1;
        return digestOf(row);
    }

    // ---- the promises

    private static void promise1NewObject() {
        promise = 1;
        RolledStones x = new RolledStones();
        for (int what = 0; what < 4; what++) due("count", x.count(what), 0);
        for (int n = 0; n < 20; n++) {
            for (int what = 0; what < 4; what++) due("weather", x.weather(n, what), 0);
        }
        for (int cell = 0; cell < 144; cell++) {
            due("fence", x.fence(cell, 0), 0);
            due("stake", x.stake(cell, true), 1);
        }
        due("above", x.part(0), 0);
        due("below", x.part(1), 1);
        due("fault", x.fault(), -1);
        due("proof", x.proof(), 0);
        due("need of no stone", x.need(0, 0), -2);
        due("from no image", x.from(0), -3);
        due("digest", new RolledStones().digest(), newDigest());
        for (int what = 0; what < 3; what++) due("status", new RolledStones().status(what), 0);
    }

    private static void promise2Stone() {
        promise = 2;
        RolledStones x = new RolledStones();
        x.stake(7, true);
        x.fence(8, 3);
        allRefused(x, "stone", -2, x.stone(-1, 0, 1), x.stone(5, 0, 1), x.stone(0, -1, 1), x.stone(0, 144, 1),
                x.stone(0, 0, 0), x.stone(0, 0, 100), x.stone(0, 7, 1), x.stone(BIG, SMALL, BIG));
        due("first", x.stone(0, 0, 1), 0);
        due("second", x.stone(4, 143, 99), 1);
        due("same cell", x.stone(0, 143, 1), -2);
        due("behind a fence", x.stone(1, 8, 50), 2);
        x.night(0, 1, 4, 1, false);
        due("the first one went", x.lies(0, 0), 1);
        due("where one lies later", x.stone(2, 1, 2), 3);
        due("fifth", x.stone(3, 20, 2), 4);
        due("sixth", x.stone(3, 21, 2), 5);
        due("seventh", x.stone(3, 22, 2), -4);
        due("BAD goes ahead of FULL", x.stone(3, 21, 2), -2);
        due("BAD goes ahead of FULL, too", x.stone(3, 22, 0), -2);
        due("how many", x.count(0), 6);
        due("refused as BAD", x.status(0), 11);
        due("refused as FULL", x.status(2), 1);
    }

    private static void promise3Fence() {
        promise = 3;
        RolledStones x = new RolledStones();
        due("was", x.fence(0, 3), 0);
        due("was", x.fence(0, 1), 3);
        due("was", x.fence(143, 2), 0);
        due("was", x.fence(143, 0), 2);
        allRefused(x, "fence", -2, x.fence(-1, 0), x.fence(144, 0), x.fence(0, -1), x.fence(0, 4), x.fence(BIG, SMALL));
        due("still", x.fence(0, 0), 1);
        int[] straight = {6, 71, 138, 60};
        int[][] turned = {{54 + 5, 66 - 12 - 6}, {67 + 60 + 12, 67 - 60}, {78 - 6, 78 + 5}, {65 - 60, 65 + 72}};
        int[] next = {54, 67, 78, 65};
        for (int way = 0; way < 4; way++) {
            x = light(66, way);
            due("straight by " + way, x.lies(0, 0), straight[way]);
            x.fence(66, 3);
            due("a fence where it starts", x.lies(0, 0), straight[way]);
            x.fence(next[way], 1);
            due("to the right from " + way, x.lies(0, 0), turned[way][0]);
            x.fence(next[way], 2);
            due("to the left from " + way, x.lies(0, 0), turned[way][1]);
            x.fence(next[way], 3);
            due("stopped from " + way, x.lies(0, 0), next[way]);
        }
    }

    private static void promise4Stake() {
        promise = 4;
        RolledStones x = light(60, 1);
        due("a stake", x.stake(65, true), 1);
        due("it is so", x.stake(65, true), -3);
        due("it ends ahead of it", x.lies(0, 0), 64);
        due("none", x.stake(65, false), 1);
        due("it is so", x.stake(65, false), -3);
        due("it rolls on", x.lies(0, 0), 69);
        allRefused(x, "stake", -2, x.stake(60, true), x.stake(60, false), x.stake(-1, true), x.stake(144, false), x.stake(BIG, true));
        due("where it comes to later", x.stake(69, true), 1);
        due("then not any more", x.lies(0, 0), 68);
        due("edges", x.stake(0, true) + x.stake(143, true), 2);
        due("NO", x.status(1), 2);
    }

    private static void promise5Night() {
        promise = 5;
        RolledStones x = new RolledStones();
        due("first", x.night(0, 0, 0, 0, false), 1);
        due("last", x.night(19, 3, 99, 9, true), 1);
        due("told", x.weather(19, 0) * 1000 + x.weather(19, 1) * 10 + x.weather(19, 2), 3999);
        due("wet", x.weather(19, 3), 1);
        allRefused(x, "night", -2, x.night(-1, 0, 0, 0, false), x.night(20, 0, 0, 0, false), x.night(19, -1, 0, 0, false),
                x.night(19, 4, 0, 0, false), x.night(19, 0, -1, 0, false), x.night(19, 0, 100, 0, false),
                x.night(19, 0, 0, -1, false), x.night(19, 0, 0, 10, false));
        due("still", x.weather(19, 1), 99);
        due("again", x.night(19, 1, 2, 3, false), 1);
        due("other", x.weather(19, 0) * 1000 + x.weather(19, 1) * 10 + x.weather(19, 2), 1023);
        due("dry", x.weather(19, 3), 0);
    }

    private static void promise6Draw() {
        promise = 6;
        RolledStones x = new RolledStones();
        allRefused(x, "draw", -2, x.draw(-1), x.draw(1000000), x.draw(BIG), x.draw(SMALL));
        due("nothing drawn", x.digest(), newDigest());
        for (int seed : new int[] {0, 1, 77, 999999}) {
            due("draw", x.draw(seed), 1);
            long state = seed;
            int[] bounds = {4, 100, 10, 2};
            for (int n = 0; n < 20; n++) {
                for (int what = 0; what < 4; what++) {
                    state = state * 1103515245L + 12345L & 2147483647L;
                    due("seed " + seed + ", night " + n + ", " + what, x.weather(n, what), (state >> 16) % bounds[what]);
                }
            }
        }
    }

    private static void promise7Weather() {
        promise = 7;
        RolledStones x = new RolledStones();
        x.night(4, 2, 31, 7, true);
        due("way", x.weather(4, 0), 2);
        due("force", x.weather(4, 1), 31);
        due("ice", x.weather(4, 2), 7);
        due("wet", x.weather(4, 3), 1);
        due("another night", x.weather(5, 1), 0);
        allRefused(x, "weather", -2, x.weather(-1, 0), x.weather(20, 0), x.weather(0, -1), x.weather(0, 4), x.weather(BIG, BIG));
    }

    private static void promise8Need() {
        promise = 8;
        RolledStones x = new RolledStones();
        for (int shape = 0; shape < 5; shape++) x.stone(shape, shape, 7);
        int[][] needs = {{28, 28, 28, 28}, {28, 56, 28, 56}, {84, 84, 84, 84}, {42, 42, 42, 42}, {82, 82, 82, 82}};
        for (int shape = 0; shape < 5; shape++) {
            for (int way = 0; way < 4; way++) due("shape " + shape + " by " + way, x.need(shape, way), needs[shape][way]);
        }
        allRefused(x, "need", -2, x.need(-1, 0), x.need(5, 0), x.need(0, -1), x.need(0, 4), x.need(BIG, 0));
    }

    private static void promise9Lies() {
        promise = 9;
        RolledStones x = new RolledStones();
        x.stone(0, 60, 25);
        x.night(0, 1, 99, 1, false);
        x.night(1, 1, 50, 2, false);
        x.night(2, 1, 99, 2, false);
        x.night(3, 3, 50, 4, false);
        x.night(19, 1, 99, 9, false);
        due("at first", x.lies(0, -1), 60);
        due("a push of 99 is too little", x.lies(0, 0), 60);
        due("100 is a step", x.lies(0, 1), 61);
        due("198 is a step, too", x.lies(0, 2), 62);
        due("200 is two", x.lies(0, 3), 60);
        due("nothing between", x.lies(0, 18), 60);
        due("891 is eight", x.lies(0, 19), 68);
        allRefused(x, "lies", -2, x.lies(0, -2), x.lies(0, 20), x.lies(-1, 0), x.lies(1, 0), x.lies(BIG, BIG));
        for (int way = 0; way < 4; way++) {
            x = light(66, way);
            x.night(1, way, 99, 9, true);
            due("ahead of the rim", x.lies(0, 1), new int[] {6, 71, 138, 60}[way]);
        }
        x = light(60, 1);
        due("nine at most", x.lies(0, 0), 69);
        due("into the first cell", light(12, 0).lies(0, 0) + light(1, 3).lies(0, 0), 0);
        due("into the last cell", light(131, 2).lies(0, 0) + light(142, 1).lies(0, 0), 286);
    }

    private static void promise9Meeting() {
        promise = 9;
        RolledStones x = new RolledStones();
        x.stone(0, 60, 1);
        x.stone(0, 63, 1);
        x.night(0, 1, 16, 1, false);
        // Four steps each: two of them, then the other one goes two, and then its own four.
        due("who met", x.lies(0, 0), 62);
        due("who was met", x.lies(1, 0), 69);
        x.fence(64, 1);
        due("the other one is steered, and then goes by the wind", x.lies(1, 0), 76 + 4);
        x = new RolledStones();
        x.stone(0, 60, 1);
        x.stone(2, 63, 2);
        x.night(0, 1, 23, 1, false);
        due("too heavy to go on", x.lies(0, 0) * 1000 + x.lies(1, 0), 62063);
        x.night(0, 1, 24, 1, false);
        due("just enough", x.lies(0, 0) * 1000 + x.lies(1, 0), 62068);
        x = new RolledStones();
        x.stone(0, 66, 1);
        x.stone(1, 55, 2);
        x.fence(54, 1);
        x.night(0, 0, 15, 1, false);
        due("an egg needs twice by the way it is met", x.lies(0, 0) * 1000 + x.lies(1, 0), 54055 - 12);
        x.night(0, 0, 16, 1, false);
        due("16 is that", x.lies(0, 0) * 1000 + x.lies(1, 0), 54000 + 58 - 24);
    }

    private static void promise10Moved() {
        promise = 10;
        RolledStones x = new RolledStones();
        due("no stones", x.moved(0), 0);
        x.stone(0, 0, 1);
        x.stone(0, 24, 2);
        x.stone(0, 48, 1);
        x.night(0, 1, 4, 1, false);
        x.night(1, 3, 8, 1, false);
        x.night(19, 0, 8, 1, false);
        due("the light ones", x.moved(0), 5);
        due("those not at the rim", x.moved(1), 5);
        due("none", x.moved(2), 0);
        due("up", x.moved(19), 6);
        allRefused(x, "moved", -2, x.moved(-1), x.moved(20), x.moved(BIG), x.moved(SMALL));
        x = light(66, 1);
        x.night(0, 1, 16, 1, false);
        x.fence(67, 1);
        x.fence(79, 1);
        x.fence(78, 1);
        due("four steps in a ring", x.work(0, 0), 4);
        due("lead home, so it did not move", x.moved(0), 0);
    }

    private static void promise11Work() {
        promise = 11;
        RolledStones x = light(60, 1);
        x.stone(0, 71, 99);
        x.night(1, 1, 99, 9, true);
        x.night(2, 3, 12, 1, false);
        due("none yet", x.work(0, -1), 0);
        due("nine", x.work(0, 0), 9);
        due("one more up to the other stone", x.work(0, 1), 10);
        due("and three back", x.work(0, 2), 13);
        due("the same later", x.work(0, 19), 13);
        due("the other one did none", x.work(1, 19), 0);
        allRefused(x, "work", -2, x.work(0, -2), x.work(0, 20), x.work(-1, 0), x.work(2, 0));
    }

    /** Six stones go nine cells to and fro in rows of their own: 54 steps a night. */
    private static RolledStones toAndFro() {
        RolledStones x = new RolledStones();
        for (int row = 0; row < 6; row++) x.stone(0, 12 * row, 1);
        for (int n = 0; n < 20; n++) x.night(n, n % 2 == 0 ? 1 : 3, 99, 9, true);
        return x;
    }

    private static void promise12Tracks() {
        promise = 12;
        RolledStones x = toAndFro();
        due("of two nights", x.tracks(0, 19, -1), 2);
        due("the first", x.tracks(0, 19, 0), 1);
        due("the second", x.tracks(0, 19, 1), 201);
        due("no third", x.tracks(0, 19, 2), -5);
        due("up to night 1", x.tracks(0, 1, -1), 1);
        due("at first", x.tracks(0, -1, -1), 0);
        due("at first none", x.tracks(0, -1, 0), -5);
        due("the 200th is kept", x.tracks(56, 19, -1), 4);
        due("which it is", x.tracks(56, 19, 3), 343);
        due("the 201st is not", x.tracks(55, 19, -1), 3);
        due("there is no fourth of its cell", x.tracks(55, 19, 3), -5);
        due("nor any of the last stone", x.tracks(69, 19, -1), 1);
        x.night(0, 1, 99, 9, false);
        due("a dry night leaves none", x.tracks(0, 0, -1), 0);
        due("so later ones are kept", x.tracks(55, 19, -1), 3);
        due("namely", x.tracks(55, 19, 2), 343);
        due("not so many", x.tracks(55, 19, BIG), -5);
        allRefused(x, "tracks", -10, x.tracks(-1, 0, 0), x.tracks(144, 0, 0), x.tracks(0, -2, 0), x.tracks(0, 20, 0),
                x.tracks(0, 0, -2), x.tracks(0, 0, SMALL));
        due("counted as BAD, the others not", x.status(0), 6);
        x = light(66, 0);
        x.fence(54, 1);
        x.night(0, 0, 8, 1, true);
        due("by the way of the step", x.tracks(66, 0, 0) * 1000 + x.tracks(54, 0, 0), 1);
    }

    private static void promise13Which() {
        promise = 13;
        RolledStones x = toAndFro();
        x.night(2, 1, 99, 9, false);
        due("all even nights", x.which(0, 0, 1, 19), 0x55555);
        due("all odd nights", x.which(5, 69, 3, 19), 0xAAAAA);
        due("up to night 4", x.which(0, 0, 1, 4), 0x15);
        due("at first", x.which(0, 0, 1, -1), 0);
        due("another stone", x.which(1, 0, 1, 19), 0);
        due("another way", x.which(0, 0, 3, 19), 0);
        allRefused(x, "which", -2, x.which(-1, 0, 0, 0), x.which(6, 0, 0, 0), x.which(0, -1, 0, 0), x.which(0, 144, 0, 0),
                x.which(0, 0, -1, 0), x.which(0, 0, 4, 0), x.which(0, 0, 0, -2), x.which(0, 0, 0, 20));
    }

    private static void promise14Found() {
        promise = 14;
        RolledStones x = toAndFro();
        due("found", x.found(0, 0, 9), 1);
        due("found", x.found(0, 1, 0), 1);
        due("two", x.count(3), 2);
        due("again, elsewhere", x.found(0, 1, 143), 1);
        due("two still", x.count(3), 2);
        allRefused(x, "found", -2, x.found(-1, 0, 0), x.found(20, 0, 0), x.found(0, -1, 0), x.found(0, 6, 0),
                x.found(0, 0, -1), x.found(0, 0, 144), x.found(BIG, BIG, BIG));
        due("refusals change nothing", x.count(3), 2);
        due("for another night", x.found(19, 2, 24), 1);
        due("only that one", x.count(3), 1);
    }

    private static void promise15Proof() {
        promise = 15;
        RolledStones x = toAndFro();
        due("nothing was found", x.proof(), 0);
        x.found(0, 0, 9);
        due("nobody pushed", x.proof(), 0);
        x.found(0, 1, 9);
        x.found(0, 5, 60);
        due("somebody pushed", x.proof(), 34);
        x.found(1, 5, 60);
        due("behind night 1", x.proof(), 0);
        x.stake(63, true);
        due("still home", x.proof(), 0);
        x.found(0, 5, 62);
        due("by the stake", x.proof(), 0);
        x.stake(63, false);
        due("without it", x.proof(), 32);
    }

    private static void promise16Watch() {
        promise = 16;
        RolledStones x = new RolledStones();
        due("no stones", x.watch(9), 0);
        x.stone(0, 60, 1);
        x.stone(0, 36, 2);
        x.stone(0, 23, 1);
        x.night(0, 1, 4, 1, false);
        x.night(1, 3, 4, 1, false);
        x.night(2, 3, 8, 1, false);
        x.night(3, 0, 8, 1, false);
        x.night(9, 2, 8, 1, false);
        // Moved: 0; 0 and 2; 2; all; .. 0 and 1 and 2.
        due("moved in 0", x.moved(0), 1);
        due("moved in 1", x.moved(1), 5);
        due("moved in 3", x.moved(3), 7);
        due("moved in 9", x.moved(9), 7);
        due("the one night", x.watch(0), 1);
        due("the second has both", x.watch(1), 2);
        due("the second still", x.watch(2), 2);
        due("the one with all", x.watch(3), 8);
        due("the least bits", x.watch(9), 8);
        allRefused(x, "watch", -2, x.watch(-1), x.watch(10), x.watch(BIG));
        x.night(3, 1, 7, 1, false);
        x.night(9, 0, 8, 1, false);
        x.stake(9, true);
        due("moved in 3", x.moved(3), 1 + 4);
        due("moved in 9", x.moved(9), 3);
        due("two are needed, the least bits", x.watch(9), 512 + 2);
    }

    private static void promise17Hold() {
        promise = 17;
        RolledStones x = light(60, 1);
        due("the cell ahead", x.hold(0, 0), 61);
        due("at first it lies there", x.hold(0, -1), -6);
        x.night(1, 3, 99, 9, false);
        due("it comes back", x.hold(0, 1), -6);
        x.night(1, 2, 4, 1, false);
        due("one stake does not do", x.hold(0, 1), -1);
        x = light(61, 1);
        x.stone(0, 60, 1);
        due("both go", x.lies(0, 0) * 1000 + x.lies(1, 0), 70069);
        due("not where a stone lay", x.hold(1, 0), 62);
        due("stakes are as they were", x.count(1), 0);
        allRefused(x, "hold", -10, x.hold(-1, 0), x.hold(2, 0), x.hold(0, -2), x.hold(0, 20));
        x = light(60, 1);
        x.night(1, 3, 32, 1, false);
        due("nine and eight back", x.lies(0, 1), 61);
        due("a stake that turns it round early", x.hold(0, 1), 61);
        x.stake(61, true);
        due("held", x.hold(0, 1), -6);
        due("counted as BAD", new RolledStones().hold(0, 0), -10);
        due("the first cell of all", light(1, 3).hold(0, 0), 0);
        due("the last cell of all", light(142, 1).hold(0, 0), 143);
    }

    private static void promise18Spring() {
        promise = 18;
        RolledStones x = new RolledStones();
        x.stone(0, 66, 10);
        x.stone(0, 67, 10);
        long[][] cases = {{0, 66, 1, 1}, {0, 67, 0, 1}, {1, 67, 1, 4}, {1, 66, 0, 1}, {2, 66, 1, 4}, {2, 68, 1, 16},
            {2, 66 + 13, 1, 8}, {3, 67, 9, 64}, {8, 66, 4900, 65536}};
        for (long[] c : cases) {
            due("spring", x.spring(0, (int) c[0], 50, 1, (int) c[1]), 1);
            long g = java.math.BigInteger.valueOf(c[2]).gcd(java.math.BigInteger.valueOf(c[3])).longValue();
            due("above, " + Arrays.toString(c), x.part(0), c[2] / g);
            due("below, " + Arrays.toString(c), x.part(1), c[3] / g);
        }
        x.stone(0, 0, 10);
        x.spring(2, 2, 50, 1, 0);
        due("in a corner: stays by two ways, or goes and comes back", x.part(0) * 10 + x.part(1), 38);
        x.spring(0, 8, 39, 1, 66);
        due("it stays", x.part(0) * 10 + x.part(1), 11);
        x.stake(54, true);
        x.fence(65, 1);
        x.spring(0, 1, 40, 2, 66);
        due("a stake holds it by one way", x.part(0) * 10 + x.part(1), 14);
        x.spring(0, 1, 40, 2, 53);
        due("a fence turns it by another", x.part(0) * 10 + x.part(1), 14);
        allRefused(x, "spring", -2, x.spring(-1, 0, 0, 0, 0), x.spring(3, 0, 0, 0, 0), x.spring(0, -1, 0, 0, 0),
                x.spring(0, 9, 0, 0, 0), x.spring(0, 0, -1, 0, 0), x.spring(0, 0, 100, 0, 0), x.spring(0, 0, 0, -1, 0),
                x.spring(0, 0, 0, 10, 0), x.spring(0, 0, 0, 0, -1), x.spring(0, 0, 0, 0, 144));
        due("refusals leave the fraction", x.part(1), 4);
    }

    private static void promise19Alone() {
        promise = 19;
        RolledStones x = light(60, 1);
        x.stone(0, 63, 99);
        due("with the other", x.lies(0, 0), 62);
        due("alone", x.alone(0, 0, 0), 69);
        due("its steps", x.alone(0, 0, 1), 9);
        due("at first", x.alone(0, -1, 0), 60);
        due("no steps", x.alone(0, -1, 1), 0);
        x.stake(66, true);
        due("stakes stand", x.alone(0, 19, 0), 65);
        x.fence(62, 2);
        due("fences steer", x.alone(0, 0, 0), 2);
        allRefused(x, "alone", -2, x.alone(-1, 0, 0), x.alone(2, 0, 0), x.alone(0, -2, 0), x.alone(0, 20, 0),
                x.alone(0, 0, -1), x.alone(0, 0, 2));
    }

    private static void promise20Met() {
        promise = 20;
        RolledStones x = new RolledStones();
        for (int cell = 60; cell < 63; cell++) x.stone(0, cell, 1);
        x.night(0, 1, 4, 1, false);
        x.night(1, 3, 4, 1, false);
        due("handed on to the last", x.met(0), 6);
        due("where they lie", x.lies(0, 0) * 10000 + x.lies(1, 0) * 100 + x.lies(2, 0), 606264);
        due("none", x.met(1), 0);
        due("none later", x.met(19), 0);
        allRefused(x, "met", -2, x.met(-1), x.met(20), x.met(BIG));
        x = new RolledStones();
        x.stone(0, 60, 1);
        x.stone(0, 61, 2);
        x.night(0, 1, 7, 1, false);
        due("too heavy", x.met(0), 0);
        x.night(0, 1, 8, 1, false);
        due("light enough", x.met(0), 2);
        x = new RolledStones();
        x.stone(0, 70, 1);
        x.stone(0, 71, 1);
        x.night(0, 1, 8, 1, false);
        due("it rolls in the other one's stead, though the rim ends it", x.met(0), 2);
    }

    private static void promise21Steer() {
        promise = 21;
        RolledStones x = light(60, 1);
        due("stopped", x.steer(0, 64, 0), 643);
        due("turned to the right", x.steer(0, 61 + 72, 0), 611);
        due("turned to the left", x.steer(0, 1, 0), 612);
        due("anyhow: the first of all", x.steer(0, 69, 0), 1);
        due("anyhow, at first", x.steer(0, 60, -1), 1);
        due("none", x.steer(0, 59, 0), -1);
        x.stake(0, true);
        due("not where a stake is", x.steer(0, 69, 0), 11);
        x.fence(62, 3);
        due("in place of what is", x.steer(0, 62 + 72, 0), 621);
        due("it goes no farther", x.steer(0, 64, 0), -1);
        due("what is counts, too", x.steer(0, 62, 0), 11);
        due("fences are as they were", x.fence(62, 3), 3);
        due("and elsewhere", x.fence(61, 0), 0);
        allRefused(x, "steer", -10, x.steer(-1, 0, 0), x.steer(1, 0, 0), x.steer(0, -1, 0), x.steer(0, 144, 0),
                x.steer(0, 0, -2), x.steer(0, 0, 20));
    }

    /** How many of force and ice make a push from low to high. */
    private static int pushes(int low, int high) {
        int many = 0;
        for (int force = 0; force < 100; force++) {
            for (int ice = 0; ice < 10; ice++) many += force * ice >= low && force * ice <= high ? 1 : 0;
        }
        return many;
    }

    private static void promise22Guess() {
        promise = 22;
        RolledStones x = new RolledStones();
        x.stone(0, 66, 25);
        due("nothing was found", x.guess(0, 0), -20);
        allRefused(x, "guess", -10, x.guess(-1, 0), x.guess(20, 0), x.guess(0, -1), x.guess(0, 2));
        due("NO", x.status(1), 1);
        due("BAD", x.status(0), 4);
        x.found(0, 0, 67);
        due("one step", x.guess(0, 0), pushes(100, 199));
        due("the first: 12 by 9", x.guess(0, 1), 1000 + 129);
        due("another night does not help", x.guess(1, 0), 0);
        due("nor is there a first", x.guess(1, 1), -1);
        x.night(0, 1, 50, 2, true);
        due("now night 1 is free", x.guess(1, 0), 4000);
        due("from the first one on", x.guess(1, 1), 0);
        x.found(1, 0, 67);
        due("stays", x.guess(1, 0), 4 * pushes(0, 99));
        due("a step and a step", x.guess(0, 0), pushes(100, 199));
        x.night(1, 3, 50, 2, true);
        due("two steps and one back", x.guess(0, 0), pushes(200, 299));
        due("WAY, FORCE and ICE are as they were", x.weather(0, 0) * 1000 + x.weather(0, 1) * 10 + x.weather(0, 2), 1502);
        x.stone(0, 20, 25);
        x.found(1, 1, 21);
        due("both lie so", x.guess(0, 0), pushes(200, 299));
        x.found(1, 1, 100);
        due("not both", x.guess(0, 0), 0);
        x = new RolledStones();
        x.stone(0, 66, 25);
        x.stone(1, 79, 60);
        x.fence(67, 1);
        x.found(0, 1, 91);
        // To the right: the first one is turned down and meets the egg, that needs 240 so, with one step left of two.
        // Down: the egg rolls a step of its own.
        due("an egg met across the wind", x.guess(0, 0), pushes(240, 299) + pushes(240, 479));
        due("the first: 27 by 9", x.guess(0, 1), 1279);
    }

    private static void promise23GuessWay() {
        promise = 23;
        RolledStones x = new RolledStones();
        x.stone(0, 66, 25);
        due("nothing was found", x.guessWay(0, 0), -3);
        allRefused(x, "guessWay", -2, x.guessWay(-1, 0), x.guessWay(20, 0), x.guessWay(0, -1), x.guessWay(0, 4));
        x.found(0, 0, 66);
        due("a way", x.guessWay(0, 3), 1);
        due("a quarter", x.part(0) * 10 + x.part(1), 14);
        x.found(0, 0, 67);
        due("the way", x.guessWay(0, 1), 1);
        due("all", x.part(0) * 10 + x.part(1), 11);
        due("another way", x.guessWay(0, 2), 1);
        due("nothing", x.part(0) * 10 + x.part(1), 1);
        x.guessWay(0, 1);
        due("there are none", x.guessWay(1, 1), -3);
        due("the fraction stays", x.part(0) * 10 + x.part(1), 11);
        due("NO", x.status(1), 2);
        x.stone(1, 20, 25);
        x.found(0, 0, 66);
        x.found(0, 1, 20);
        x.stake(78, true);
        x.stake(32, true);
        x.guessWay(0, 2);
        int all = 4 * pushes(0, 99) + pushes(100, 891);
        long g = java.math.BigInteger.valueOf(1000).gcd(java.math.BigInteger.valueOf(all)).longValue();
        due("held by stakes: above", x.part(0), 1000 / g);
        due("held by stakes: below", x.part(1), all / g);
    }

    private static void promise24Seeds() {
        promise = 24;
        RolledStones x = new RolledStones();
        x.stone(0, 66, 9);
        x.stone(3, 40, 5);
        due("nothing was found", x.seeds(0, 0), -20);
        allRefused(x, "seeds", -10, x.seeds(-1, 0), x.seeds(1000000, 0), x.seeds(0, -1), x.seeds(0, 100));
        for (int seed : new int[] {0, 50, 123456, 999950, 999999}) {
            x.draw(seed);
            int at = x.lies(0, 6);
            int other = x.lies(1, 6);
            x.found(6, 0, at);
            x.found(6, 1, other);
            int a = Math.max(0, seed - 40);
            int least = a;
            for (int s = a; s <= seed; s++) {
                x.draw(s);
                least = s;
                if (x.proof() == 0) break;
            }
            x.draw(5);
            long before = x.digest();
            due("the least", x.seeds(a, 99), least);
            due("itself", x.seeds(seed, 0), seed);
            due("nights are as they were", x.digest(), before);
        }
        x.found(0, 0, 1);
        due("none, up to the last", x.seeds(999999, 99), -1);
        // Seed 999999 pushes up by 58 times 3 in night 0; 1000000 would push down by 16 times 8.
        x = new RolledStones();
        x.stone(0, 66, 25);
        x.found(0, 0, 54);
        due("the last seed", x.seeds(999990, 20), 999999);
        x.found(0, 0, 78);
        due("there is none behind the last", x.seeds(999999, 5), -1);
    }

    private static void promise25Type() {
        promise = 25;
        RolledStones x = new RolledStones();
        allRefused(x, "type", -2, x.type(0, 0), x.type(0, 9), x.type(0, -1), x.type(0, BIG), x.type(0, SMALL));
        due("two", x.type(0x6162_6163_6B20L, 4), 4);
        due("one more", x.type(-1L, 1), 5);
        due("the highest first", x.digest(), bookDigest(0x61, 0x63, 0x6B, 0x20, 255));
        x.clear();
        for (int i = 1; i <= 24; i++) due("eight more", x.type(-2L, 8), 8 * i);
        due("one more", x.type(59, 1), 193);
        due("too many", x.type(0, 8), -4);
        due("nothing came", x.count(2), 193);
        due("just so many", x.type(0, 7), 200);
        due("no more", x.type(0, 1), -4);
        due("BAD goes ahead of FULL", x.type(0, 0), -2);
        due("FULL", x.status(2), 2);
    }

    private static long bookDigest(int... bytes) {
        long[] row = new long[4 + 288 + 80 + bytes.length + 1 + 2];
        row[2] = bytes.length;
        for (int i = 0; i < bytes.length; i++) row[372 + i] = bytes[i];
        row[372 + bytes.length] = -1;
        row[374 + bytes.length] = 1;
        return digestOf(row);
    }

    private static void promise26Clear() {
        promise = 26;
        RolledStones x = new RolledStones();
        due("nothing", x.clear(), 0);
        x.type(0, 3);
        due("three", x.clear(), 3);
        due("nothing", x.clear(), 0);
        due("empty", x.digest(), newDigest());
        due("from the start", x.type(0, 2), 2);
    }

    private static void promise27Fault() {
        promise = 27;
        RolledStones x = new RolledStones();
        x.stone(0, 0, 1);
        x.stone(0, 1, 1);
        String[] fine = {"", " ", "claim 0 1 19 1 99;", "back 5 0 0;", "back 5 0 00;", "  claim  00 05 2 01 7 ; back 1 2 3;",
            "claim0 1 2 0 3;back1 0 9;"};
        for (String text : fine) due("'" + text + "'", faultOf(x, text), -1);
        Object[][] faults = {{"claim 0 1 19 1 99", 17}, {"claim 0 1 19 1 99 ", 18}, {"claim", 5}, {"back 1 2 3; back", 16},
            {"claims 0 1 2 0 3;", 0}, {"cl", 0}, {"Claim 0 1 2 0 3;", 0}, {";", 0}, {"back 1 2 3;;", 11}, {"7", 0},
            {"claim 6 1 2 0 3;", 6}, {"claim 0 6 2 0 3;", 8}, {"claim 3 3 2 0 3;", 8}, {"claim 0 1 20 0 3;", 10},
            {"claim 0 1 2 2 3;", 12}, {"claim 0 1 2 0 100;", 14}, {"claim 0 1 2 0 003;", 14}, {"claim 0 1 2 0;", 13},
            {"claim 0 1 2 0 3 4;", 16}, {"back 0 0 3;", 7}, {"back 0 1 2 3;", 11}, {"back 0 1 back", 9}, {"back 0 1 -2;", 9},
            {"back 0 1 2,", 10}, {"back\t0 1 2;", 4}, {"back 0 1 2; x", 12}, {"back 0 1 2;\n", 11}, {"back 0 " + (char) 233, 7},
            {"back 0 1 2" + (char) 0, 10}, {"claim 0 123456789012345678901 2 0 3;", 8}, {"xlaim 0 1 2 0 3;", 0}, {"claix 0 1 2 0 3;", 0},
            {"bakk 0 1 2;", 0}, {"back 0 1 2;" + (char) 0, 11}, {"back 0 1 2;" + (char) 255, 11}, {"back 01", 7}, {"back 0 0", 7}};
        for (Object[] c : faults) due("'" + c[0] + "'", faultOf(x, (String) c[0]), (Integer) c[1]);
        due("a stone that is not there", faultOf(x, "claim 0 1 2 2 3;"), 12);
        x.stone(0, 2, 1);
        due("and now is", x.fault(), -1);
        String full = "back 0 1 2;".repeat(18) + "  ";
        due("a full book", faultOf(x, full), -1);
        due("200 bytes", x.count(2), 200);
        due("never refused", x.status(0) + x.status(1) + x.status(2), 0);
    }

    /** Stone 0 rolls in night 0 and in none later; stone 1 never does. */
    private static RolledStones told() {
        RolledStones x = light(60, 1);
        x.stone(0, 30, 99);
        x.night(0, 1, 4, 1, false);
        x.night(4, 3, 4, 1, false);
        return x;
    }

    private static void promise28Claims() {
        promise = 28;
        RolledStones x = told();
        due("an empty book", x.claims(0) + x.claims(1) + x.claims(2), 0);
        typeText(x, "claim 0 1 0 0 5;claim 0 1 1 0 5;claim 0 1 2 1 5;claim 2 3 5 1 0;back 0 1 3;claim 0 1 4 0 5;");
        due("all", x.claims(0), 5);
        due("nothing was found: all are wrong", x.claims(1), 5);
        due("none is unsure", x.claims(2), 0);
        x.found(4, 0, 60);
        x.found(4, 1, 30);
        due("they lie there: all wrong", x.claims(1), 5);
        x.found(4, 0, 61);
        // Stone 0 is elsewhere: of nights 0 and 4, in which it moved, the claims are wrong, of night 1 unsure.
        due("unsure", x.claims(2), 1);
        due("wrong", x.claims(1), 4);
        x.found(4, 1, 31);
        // Stone 1 never moved: night 2 is unsure; night 5 comes behind night 4.
        due("unsure", x.claims(2), 2);
        x.found(5, 1, 31);
        due("another night: stone 0 was not found", x.claims(2), 2);
        due("wrong", x.claims(1), 3);
        x.clear();
        typeText(x, "claim0 1 2 0 3;".repeat(13));
        due("as many as there is room for", x.claims(0), 13);
        due("with all that they say", x.owed(0, 1), 39);
        allRefused(x, "claims", -2, x.claims(-1), x.claims(3), x.claims(BIG));
        typeText(x, "x");
        due("a fault", x.claims(0), -3);
        due("BAD goes ahead of NO", x.claims(3), -2);
        due("NO", x.status(1), 1);
    }

    private static void promise29Owed() {
        promise = 29;
        RolledStones x = told();
        typeText(x, "claim 0 1 0 0 50;claim 0 1 1 0 7;claim 1 0 2 1 20;back 0 1 30;back 4 5 9;");
        due("two claims less what was given back", x.owed(0, 1), 27);
        due("the other way", x.owed(1, 0), 20);
        due("more was given back", x.owed(4, 5), -9);
        due("nothing", x.owed(5, 4), 0);
        typeText(x, "back 0 1 1;");
        due("given back twice", x.owed(0, 1), 26);
        x.found(4, 0, 0);
        due("an unsure one does not count", x.owed(0, 1), 19);
        allRefused(x, "owed", -1000000, x.owed(-1, 0), x.owed(6, 0), x.owed(0, -1), x.owed(0, 6), x.owed(3, 3), x.owed(BIG, SMALL));
        typeText(x, ";");
        due("a fault", x.owed(0, 1), -2000000);
        due("BAD goes ahead of NO", x.owed(1, 1), -1000000);
        due("BAD", x.status(0), 7);
        due("NO", x.status(1), 1);
    }

    private static void promise30Net() {
        promise = 30;
        RolledStones x = told();
        typeText(x, "claim 0 1 0 0 50;claim 1 2 0 0 7;claim 2 0 2 1 20;back 0 1 30;back 4 5 9;");
        int[] nets = {0, 13, -13, 0, 9, -9};
        for (int farmer = 0; farmer < 6; farmer++) due("net of " + farmer, x.net(farmer), nets[farmer]);
        allRefused(x, "net", -1000000, x.net(-1), x.net(6), x.net(BIG));
        typeText(x, "back");
        due("a fault", x.net(0), -2000000);
        due("BAD goes ahead of NO", x.net(6), -1000000);
    }

    private static void promise31Fewest() {
        promise = 31;
        RolledStones x = told();
        due("nobody owes", x.fewest(), 0);
        Object[][] books = {{"claim 0 1 0 0 5;", 1}, {"claim 0 1 0 0 5;claim 1 2 0 0 5;", 1}, {"claim 0 1 0 0 5;claim 1 2 0 0 6;", 2},
            {"claim 0 1 0 0 5;claim 1 0 0 0 5;", 0}, {"claim 0 1 0 0 5;claim 2 3 0 0 5;claim 4 5 0 0 5;", 3},
            {"claim 0 1 0 0 5;claim 0 2 0 0 3;claim 0 3 0 0 2;claim 0 4 0 0 1;claim 0 5 0 0 9;", 5},
            {"claim 0 1 0 0 4;claim 0 2 0 0 3;claim 3 4 0 0 5;claim 3 5 0 0 1;claim 3 1 0 0 1;", 5},
            {"claim 0 3 0 0 2;claim 0 4 0 0 3;claim 1 4 0 0 1;claim 1 5 0 0 6;claim 2 3 0 0 3;", 4},
            {"back 1 2 9;", 1}};
        for (Object[] c : books) {
            x.clear();
            typeText(x, (String) c[0]);
            due("'" + c[0] + "'", x.fewest(), (Integer) c[1]);
        }
        typeText(x, "9");
        due("a fault", x.fewest(), -3);
        due("NO", x.status(1), 1);
    }

    private static void promise32Part() {
        promise = 32;
        RolledStones x = light(60, 1);
        due("above", x.part(0), 0);
        due("below", x.part(1), 1);
        x.spring(0, 1, 1, 4, 61);
        due("above", x.part(0), 1);
        due("below", x.part(1), 4);
        allRefused(x, "part", -2, x.part(-1), x.part(2), x.part(BIG));
        due("BAD", x.status(0), 3);
        x.spring(0, 1, 1, 4, 100);
        due("nothing is 0 by 1", x.part(0) * 10 + x.part(1), 1);
    }

    private static void promise33Image() {
        promise = 33;
        RolledStones x = light(60, 1);
        due("kept", x.image(0), 1);
        due("kept", x.image(1), 1);
        due("again", x.image(1), 1);
        allRefused(x, "image", -2, x.image(-1), x.image(2), x.image(BIG));
        due("BAD", x.status(0), 3);
    }

    private static void promise34From() {
        promise = 34;
        RolledStones x = light(60, 1);
        due("none was kept", x.from(0), -3);
        allRefused(x, "from", -2, x.from(-1), x.from(2), x.from(BIG));
        x.fence(5, 2);
        x.stake(6, true);
        x.type(65, 1);
        x.found(3, 0, 9);
        long before = x.digest();
        x.image(0);
        x.stone(1, 70, 8);
        x.fence(5, 1);
        x.stake(6, false);
        x.draw(9);
        x.type(66, 1);
        x.found(4, 0, 8);
        x.image(1);
        long later = x.digest();
        due("back", x.from(0), 1);
        due("all is as it was", x.digest(), before);
        due("the need of the first stone", x.need(0, 1), 4);
        due("no second one", x.need(1, 1), -2);
        x.stone(4, 70, 3);
        due("another second one", x.need(1, 1), 58);
        due("it goes on from the other", x.from(1), 1);
        due("all is as it was there", x.digest(), later);
        due("with its stone", x.need(1, 1), 64);
        x.from(0);
        due("an image is not touched by what comes later", x.digest(), before);
        x.spring(0, 1, 1, 4, 61);
        x.from(0);
        due("the fraction is not kept", x.part(1), 4);
        due("BAD is not kept", x.status(0), 4);
        due("NO is not kept", x.status(1), 1);
        due("the other image neither", x.from(1), 1);
        x = toAndFro();
        x.image(0);
        due("another object of six", x.from(0), 1);
        due("the last one's need", x.need(5, 3), 4);
        RolledStones y = new RolledStones();
        y.image(0);
        for (int cell = 0; cell < 6; cell++) y.stone(1, cell, 2);
        y.image(1);
        y.from(0);
        for (int cell = 0; cell < 6; cell++) y.stone(0, cell, 3);
        y.from(1);
        due("needs are kept, too", y.need(5, 3) * 100 + y.need(5, 2), 1608);
    }

    private static void promise35Status() {
        promise = 35;
        RolledStones x = new RolledStones();
        due("BAD", x.status(0), 0);
        due("another", x.status(3), -1);
        due("another", x.status(-1), -1);
        due("counts as BAD", x.status(0), 2);
        x.stake(0, false);
        x.guess(0, 0);
        due("NO", x.status(1), 2);
        for (int i = 0; i < 7; i++) x.stone(0, i, 1);
        due("FULL", x.status(2), 1);
        x.tracks(0, 0, 5);
        x.hold(0, 0);
        x.steer(0, 5, 0);
        x.fault();
        due("no answer else is a refusal", x.status(0) * 100 + x.status(1) * 10 + x.status(2), 221);
    }

    private static void promise36Count() {
        promise = 36;
        RolledStones x = told();
        x.stake(1, true);
        x.stake(2, true);
        x.stake(3, true);
        x.stake(2, false);
        x.stake(0, true);
        typeText(x, "back");
        x.found(1, 1, 1);
        due("stones", x.count(0), 2);
        due("stakes", x.count(1), 3);
        due("bytes", x.count(2), 4);
        due("found", x.count(3), 1);
        allRefused(x, "count", -2, x.count(-1), x.count(4), x.count(BIG));
    }

    private static void promise37Digest() {
        promise = 37;
        RolledStones x = new RolledStones();
        x.stone(3, 17, 4);
        x.stone(1, 90, 40);
        x.fence(0, 2);
        x.fence(143, 1);
        x.stake(5, true);
        x.night(0, 3, 44, 8, true);
        x.night(19, 1, 2, 3, false);
        x.type(200L << 8 | 97, 2);
        x.found(6, 1, 33);
        x.spring(0, 1, 24, 1, 18);
        long[] row = new long[4 + 6 + 288 + 80 + 2 + 1 + 2 + 2];
        long[] head = {2, 1, 2, 1, 3, 17, 4, 1, 90, 40};
        System.arraycopy(head, 0, row, 0, 10);
        row[10] = 2;
        row[10 + 2 * 143] = 1;
        row[10 + 2 * 5 + 1] = 1;
        long[] first = {3, 44, 8, 1};
        System.arraycopy(first, 0, row, 298, 4);
        long[] last = {1, 2, 3, 0};
        System.arraycopy(last, 0, row, 298 + 76, 4);
        long[] tail = {200, 97, 6, -1, 33, 1, 4};
        System.arraycopy(tail, 0, row, 378, 7);
        due("all of it", x.digest(), digestOf(row));
        x.stone(9, 9, 9);
        due("refusals are not in it", x.digest(), digestOf(row));
    }
}
