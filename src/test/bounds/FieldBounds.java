import java.math.BigInteger;

/** THE FIELD and its NIGHTS as they are told: the Terms' first part, and promises 1 to 8. */
final class FieldBounds {
    private static final String TERMS = "Terms";
    private final Sheet s;

    FieldBounds(Sheet sheet) {
        s = sheet;
    }

    void all() {
        s.says(TERMS, "143 (12 times the row and the column).", this::everyCellAndItsNeighbours);
        s.says(TERMS, "143 (12 times the row and the column).", this::rowsDoNotWrap);
        s.says(TERMS, "WAYS 0 up (a row less), 1 right, 2 down, 3 left.", this::fourWays);
        s.says(TERMS, "STONES 0 .. 5, as they come,", this::numbersAsTheyCome);
        s.says(TERMS, "of SHAPES, each under the one told,", this::fiveShapes);
        s.says(TERMS, "lie in a CELL each at first (no two in one),", this::noTwoInOneCell);
        s.says(TERMS, "weigh WEIGHT (1 .. 99).", this::lightestAndHeaviest);
        s.says(TERMS, "FENCES of CELLS: none (0; at first), 1 turns to the right, 2 to the left, 3 stops.", this::noFencesAtFirst);
        s.says(TERMS, "STAKES of CELLS: there or not.", this::noStakesAtFirst);
        needs();
        weather();
        promises1To4();
        promises5To8();
    }

    private void needs() {
        s.says(TERMS, "NEED of a STONE by a WAY: 0 ROUND: 4 WEIGHT.", () -> needOf(0, 4, 4, 0));
        s.says(TERMS, "1 EGG (under ROUND): that, twice by WAYS 1 and 3.", () -> needOf(1, 4, 8, 0));
        s.says(TERMS, "2 FLAT (under ROUND): three times that.", () -> needOf(2, 12, 12, 0));
        s.says(TERMS, "3 SPLIT (under FLAT): half of that, cut.", () -> needOf(3, 6, 6, 0));
        s.says(TERMS, "4 SUNK (under SPLIT): that and 40.", () -> needOf(4, 6, 6, 40));
    }

    private void weather() {
        s.says(TERMS, "NIGHTS 0 .. 19: WIND: a WAY and FORCE (0 .. 99), ICE (0 .. 9), WET or not", this::firstAndLastNight);
        s.says(TERMS, "(0, 0, 0, not at first).", this::calmAtFirst);
        s.says(TERMS, "DRAWN by a SEED (0 .. 999999):", this::leastAndMostSeed);
        s.says(TERMS, "X is SEED at first; for each NIGHT, one behind the other, four times X becomes X times 1103515245"
                + " and 12345, by 2147483648 what is left over, D is X by 65536 (cut):", this::drawnNumbersWrap);
        s.says(TERMS, "WAY is D by 4 left over, FORCE by 100, ICE by 10, WET, if D by 2 leaves 1.", this::drawnWithinBounds);
    }

    private void promises1To4() {
        s.says("Promise 1", "As told; no STONES.", this::newObject);
        s.says("Promise 1", "As told; no STONES.", this::objectsAreApart);
        s.says("Promise 2", "A STONE: its number.", this::numbersAsTheyCome);
        s.says("Promise 2", "BAD:", () -> s.bounds("shape", 0, 4, -2, Sheet::some, (x, v) -> x.stone(v, 1, 1)));
        s.says("Promise 2", "BAD:", () -> s.bounds("cell", 0, 143, -2, Sheet::some, (x, v) -> x.stone(0, v, 1)));
        s.says("Promise 2", "BAD:", () -> s.bounds("weight", 1, 99, -2, Sheet::some, (x, v) -> x.stone(0, 1, v)));
        s.says("Promise 2", "one lies there,", this::stoneWhereOneLies);
        s.says("Promise 2", "a STAKE stands there, too;", this::stoneWhereAStakeStands);
        s.says("Promise 2", "FULL: 6.", this::aSeventhStone);
        s.says("Promise 3", "FENCE of a CELL: what it was.", this::fenceTellsWhatWas);
        s.says("Promise 3", "BAD.", () -> s.bounds("cell", 0, 143, -2, Sheet::some, (x, v) -> x.fence(v, 1)));
        s.says("Promise 3", "BAD.", () -> s.bounds("kind", 0, 3, -2, Sheet::some, (x, v) -> x.fence(1, v)));
        s.says("Promise 4", "A STAKE in a CELL, or none: 1.", this::stakeComesAndGoes);
        s.says("Promise 4", "BAD:", () -> s.bounds("cell", 0, 143, -2, Sheet::some, (x, v) -> x.stake(v, true)));
        s.says("Promise 4", "a STONE lay there at first, too;", this::stakeWhereAStoneLay);
        s.says("Promise 4", "NO: it is so.", this::stakeThatIsSo);
    }

    private void promises5To8() {
        s.says("Promise 5", "A NIGHT: WAY, FORCE, ICE, WET: 1.", this::nightToldTwice);
        s.says("Promise 5", "BAD.", () -> s.bounds("night", 0, 19, -2, Sheet::some, (x, v) -> x.night(v, 1, 2, 3, true)));
        s.says("Promise 5", "BAD.", () -> s.bounds("way", 0, 3, -2, Sheet::some, (x, v) -> x.night(0, v, 2, 3, true)));
        s.says("Promise 5", "BAD.", () -> s.bounds("force", 0, 99, -2, Sheet::some, (x, v) -> x.night(0, 1, v, 3, true)));
        s.says("Promise 5", "BAD.", () -> s.bounds("ice", 0, 9, -2, Sheet::some, (x, v) -> x.night(0, 1, 2, v, true)));
        s.says("Promise 6", "All NIGHTS are DRAWN: 1.", this::drawnOverWhatWasTold);
        s.says("Promise 6", "BAD.", () -> s.bounds("seed", 0, 999999, -2, Sheet::some, (x, v) -> x.draw(v)));
        s.says("Promise 7", "Of a NIGHT: 0 WAY, 1 FORCE, 2 ICE, 3 WET (1, 0).", this::weatherOfANight);
        s.says("Promise 7", "BAD.", () -> s.bounds("night", 0, 19, -2, Sheet::some, (x, v) -> x.weather(v, 1)));
        s.says("Promise 7", "BAD.", () -> s.bounds("what", 0, 3, -2, Sheet::some, (x, v) -> x.weather(1, v)));
        s.says("Promise 8", "NEED.", this::needAtTheEdges);
        s.says("Promise 8", "BAD.", () -> s.bounds("stone of two", 0, 1, -2, Sheet::some, (x, v) -> x.need(v, 1)));
        s.says("Promise 8", "BAD.", () -> s.bounds("stone of six", 0, 5, -2, Sheet::toAndFro, (x, v) -> x.need(v, 1)));
        s.says("Promise 8", "BAD.", () -> s.bounds("way", 0, 3, -2, Sheet::some, (x, v) -> x.need(1, v)));
    }

    // ---- cells, ways, stones

    /** By row and column apart, a step from every cell by every way. */
    private void everyCellAndItsNeighbours() {
        int[] down = {-1, 0, 1, 0};
        int[] right = {0, 1, 0, -1};
        for (int cell = 0; cell < 144; cell++) {
            for (int way = 0; way < 4; way++) {
                int row = cell / 12 + down[way];
                int column = cell % 12 + right[way];
                boolean off = row < 0 || row > 11 || column < 0 || column > 11;
                s.due("a step from " + cell + " by " + way, Sheet.light(cell, way, 4).lies(0, 0), off ? cell : 12 * row + column);
            }
        }
    }

    private void rowsDoNotWrap() {
        s.due("right of the first row's last cell", Sheet.light(11, 1, 36).lies(0, 0), 11);
        s.due("left of the second row's first cell", Sheet.light(12, 3, 36).lies(0, 0), 12);
        s.due("right of the last cell", Sheet.light(143, 1, 36).lies(0, 0), 143);
        s.due("left of the first cell", Sheet.light(0, 3, 36).lies(0, 0), 0);
        s.due("up from the first row", Sheet.light(5, 0, 36).lies(0, 0), 5);
        s.due("down from the last row", Sheet.light(138, 2, 36).lies(0, 0), 138);
    }

    private void fourWays() {
        int[] next = {54, 67, 78, 65};
        for (int way = 0; way < 4; way++) {
            s.due("by " + way, Sheet.light(66, way, 4).lies(0, 0), next[way]);
        }
        s.bounds("way", 0, 3, -2, () -> Sheet.lights(66), (x, v) -> x.need(0, v));
    }

    private void numbersAsTheyCome() {
        RolledStones x = new RolledStones();
        int[] cells = {100, 3, 143, 0, 70, 71};
        for (int stone = 0; stone < 6; stone++) {
            int number = stone;
            s.taken(x, number, "stone " + number, y -> y.stone(number % 5, cells[number], 1 + number));
            s.due("how many", x.count(0), number + 1);
        }
        for (int stone = 0; stone < 6; stone++) {
            s.due("cell of " + stone, x.lies(stone, -1), cells[stone]);
        }
    }

    private void fiveShapes() {
        int[] needs = {4, 4, 12, 6, 46};
        for (int shape = 0; shape < 5; shape++) {
            RolledStones x = new RolledStones();
            s.due("shape " + shape, x.stone(shape, 0, 1), 0);
            s.due("its need upwards", x.need(0, 0), needs[shape]);
        }
        s.refused(new RolledStones(), Sheet.BAD, -2, "a sixth shape", x -> x.stone(5, 0, 1));
    }

    private void noTwoInOneCell() {
        RolledStones x = Sheet.lights(0, 143);
        s.refused(x, Sheet.BAD, -2, "a second one in the first cell", y -> y.stone(0, 0, 1));
        s.refused(x, Sheet.BAD, -2, "a second one in the last cell", y -> y.stone(4, 143, 99));
        s.taken(x, 2, "one beside it", y -> y.stone(0, 1, 1));
    }

    private void lightestAndHeaviest() {
        RolledStones x = new RolledStones();
        s.refused(x, Sheet.BAD, -2, "weight 0", y -> y.stone(0, 1, 0));
        s.refused(x, Sheet.BAD, -2, "weight 100", y -> y.stone(0, 1, 100));
        s.taken(x, 0, "weight 1", y -> y.stone(0, 1, 1));
        s.taken(x, 1, "weight 99", y -> y.stone(0, 2, 99));
        s.due("its need", x.need(0, 0), 4);
        s.due("the other's need", x.need(1, 0), 396);
    }

    private void noFencesAtFirst() {
        RolledStones x = new RolledStones();
        for (int cell = 0; cell < 144; cell++) {
            s.due("fence of " + cell, x.fence(cell, 0), 0);
        }
    }

    private void noStakesAtFirst() {
        RolledStones x = new RolledStones();
        s.due("stakes", x.count(1), 0);
        for (int cell = 0; cell < 144; cell++) {
            s.due("a stake in " + cell, x.stake(cell, true), 1);
        }
        s.due("stakes everywhere", x.count(1), 144);
        for (int cell = 0; cell < 144; cell++) {
            s.due("none in " + cell, x.stake(cell, false), 1);
        }
        s.due("stakes nowhere", x.count(1), 0);
    }

    /** Of every weight: so many times it upwards and down, so many times it to the sides, and some more. */
    private void needOf(int shape, int along, int across, int more) {
        for (int weight = 1; weight <= 99; weight++) {
            RolledStones x = new RolledStones();
            x.stone(shape, 77, weight);
            for (int way = 0; way < 4; way++) {
                int times = way == 0 || way == 2 ? along : across;
                s.due("need of weight " + weight + " by " + way, x.need(0, way), times * weight + more);
            }
        }
    }

    // ---- weather

    private void firstAndLastNight() {
        RolledStones x = new RolledStones();
        s.taken(x, 1, "the first", y -> y.night(0, 3, 99, 9, true));
        s.taken(x, 1, "the last", y -> y.night(19, 0, 0, 0, true));
        s.due("the most of all", weatherRow(x, 0), 39991);
        s.due("the least of all, but wet", weatherRow(x, 19), 1);
        s.due("the one behind the first is calm", weatherRow(x, 1), 0);
        s.refused(x, Sheet.BAD, -2, "behind the last", y -> y.night(20, 0, 0, 0, false));
        s.refused(x, Sheet.BAD, -2, "ahead of the first", y -> y.night(-1, 0, 0, 0, false));
    }

    private static int weatherRow(RolledStones x, int n) {
        return x.weather(n, 0) * 10000 + x.weather(n, 1) * 100 + x.weather(n, 2) * 10 + x.weather(n, 3);
    }

    private void calmAtFirst() {
        RolledStones x = new RolledStones();
        for (int n = 0; n < 20; n++) {
            s.due("night " + n, weatherRow(x, n), 0);
        }
    }

    private void leastAndMostSeed() {
        drawnAsTold(0);
        drawnAsTold(999999);
        s.refused(Sheet.some(), Sheet.BAD, -2, "one too many", x -> x.draw(1000000));
        s.refused(Sheet.some(), Sheet.BAD, -2, "one too few", x -> x.draw(-1));
    }

    private void drawnNumbersWrap() {
        // 1103527590 and 1103515245 times it, and 12345, is by 2147483648 left over 377401575: figures of seed 1.
        RolledStones x = new RolledStones();
        x.draw(1);
        s.due("way: 16838 by 4", x.weather(0, 0), 16838 % 4);
        s.due("force: 5758 by 100", x.weather(0, 1), 58);
        s.due("ice: 10113 by 10", x.weather(0, 2), 3);
        s.due("wet: 17515 by 2", x.weather(0, 3), 1);
        s.due("way of the next one: 31051 by 4", x.weather(1, 0), 31051 % 4);
        for (int seed : new int[] {2, 77, 31337, 500000}) {
            drawnAsTold(seed);
        }
    }

    private void drawnAsTold(int seed) {
        RolledStones x = new RolledStones();
        s.due("draw", x.draw(seed), 1);
        BigInteger drawn = BigInteger.valueOf(seed);
        int[] by = {4, 100, 10, 2};
        for (int i = 0; i < 80; i++) {
            drawn = drawn.multiply(BigInteger.valueOf(1103515245)).add(BigInteger.valueOf(12345)).mod(BigInteger.ONE.shiftLeft(31));
            int d = drawn.shiftRight(16).intValueExact();
            s.due("seed " + seed + ", night " + i / 4 + ", " + i % 4, x.weather(i / 4, i % 4), d % by[i % 4]);
        }
    }

    private void drawnWithinBounds() {
        RolledStones x = new RolledStones();
        for (int seed = 0; seed < 6; seed++) {
            x.draw(seed * 199999);
            for (int n = 0; n < 20; n++) {
                int way = x.weather(n, 0), force = x.weather(n, 1), ice = x.weather(n, 2), wet = x.weather(n, 3);
                boolean fine = way >= 0 && way < 4 && force >= 0 && force < 100 && ice >= 0 && ice < 10 && (wet == 0 || wet == 1);
                s.due("night " + n + " is as told", fine ? 1 : 0, 1);
            }
        }
    }

    // ---- promises 1 to 4

    private void newObject() {
        RolledStones x = new RolledStones();
        for (int what = 0; what < 3; what++) {
            s.due("status " + what, x.status(what), 0);
        }
        for (int what = 0; what < 4; what++) {
            s.due("count " + what, x.count(what), 0);
        }
        s.due("above", x.part(0), 0);
        s.due("below", x.part(1), 1);
        s.due("proof", x.proof(), 0);
        s.due("fault", x.fault(), -1);
        s.due("claims", x.claims(0), 0);
        s.refused(x, Sheet.BAD, -2, "the first stone", y -> y.lies(0, -1));
        s.refused(x, Sheet.NO, -3, "the first image", y -> y.from(0));
        s.refused(x, Sheet.NO, -3, "the second image", y -> y.from(1));
    }

    private void objectsAreApart() {
        RolledStones x = Sheet.some();
        x.image(0);
        x.stone(9, 9, 9);
        RolledStones y = new RolledStones();
        s.due("stones of another one", y.count(0), 0);
        s.due("status of another one", y.status(0), 0);
        s.due("image of another one", y.from(0), -3);
        s.due("a stone of its own", y.stone(0, 60, 1), 0);
        s.due("the first one's stones", x.count(0), 2);
    }

    private void stoneWhereOneLies() {
        RolledStones x = Sheet.light(60, 1, 4);
        s.refused(x, Sheet.BAD, -2, "where one lies", y -> y.stone(1, 60, 5));
        s.taken(x, 1, "where it comes to rest later", y -> y.stone(1, 61, 5));
    }

    private void stoneWhereAStakeStands() {
        RolledStones x = new RolledStones();
        x.stake(60, true);
        s.refused(x, Sheet.BAD, -2, "where a stake stands", y -> y.stone(0, 60, 1));
        x.stake(60, false);
        s.taken(x, 0, "where one stood", y -> y.stone(0, 60, 1));
    }

    private void aSeventhStone() {
        RolledStones x = Sheet.toAndFro();
        x.stake(143, true);
        s.refused(x, Sheet.FULL, -4, "a seventh", y -> y.stone(0, 100, 1));
        s.refused(x, Sheet.BAD, -2, "BAD comes first: a shape", y -> y.stone(5, 100, 1));
        s.refused(x, Sheet.BAD, -2, "BAD comes first: a cell", y -> y.stone(0, 144, 1));
        s.refused(x, Sheet.BAD, -2, "BAD comes first: a weight", y -> y.stone(0, 100, 0));
        s.refused(x, Sheet.BAD, -2, "BAD comes first: one lies there", y -> y.stone(0, 60, 1));
        s.refused(x, Sheet.BAD, -2, "BAD comes first: a stake", y -> y.stone(0, 143, 1));
    }

    private void fenceTellsWhatWas() {
        RolledStones x = Sheet.lights(0);
        int[] kinds = {3, 3, 1, 2, 0, 0};
        int was = 0;
        for (int kind : kinds) {
            s.taken(x, was, "fence " + kind + " where a stone lies", y -> y.fence(0, kind));
            was = kind;
        }
        x.stake(143, true);
        s.taken(x, 0, "where a stake stands", y -> y.fence(143, 2));
        s.taken(x, 2, "the same again", y -> y.fence(143, 2));
    }

    private void stakeComesAndGoes() {
        RolledStones x = Sheet.light(60, 1, 36);
        x.fence(69, 1);
        s.taken(x, 1, "where it would come to rest, and a fence is", y -> y.stake(69, true));
        s.due("one", x.count(1), 1);
        s.due("it ends ahead of it", x.lies(0, 0), 68);
        s.taken(x, 1, "none", y -> y.stake(69, false));
        s.due("none", x.count(1), 0);
        s.due("it comes there", x.lies(0, 0), 69);
    }

    private void stakeWhereAStoneLay() {
        RolledStones x = Sheet.light(60, 1, 36);
        s.refused(x, Sheet.BAD, -2, "a stake there", y -> y.stake(60, true));
        s.refused(x, Sheet.BAD, -2, "none there: BAD comes ahead of NO", y -> y.stake(60, false));
    }

    private void stakeThatIsSo() {
        RolledStones x = new RolledStones();
        s.refused(x, Sheet.NO, -3, "none where none is", y -> y.stake(0, false));
        x.stake(0, true);
        s.refused(x, Sheet.NO, -3, "one where one is", y -> y.stake(0, true));
        s.refused(x, Sheet.BAD, -2, "BAD comes first", y -> y.stake(144, false));
    }

    // ---- promises 5 to 8

    private void nightToldTwice() {
        RolledStones x = new RolledStones();
        s.taken(x, 1, "told", y -> y.night(9, 3, 98, 7, true));
        s.due("as told", weatherRow(x, 9), 39871);
        s.taken(x, 1, "told again", y -> y.night(9, 1, 0, 9, false));
        s.due("as told again", weatherRow(x, 9), 10090);
        s.taken(x, 1, "and the same again", y -> y.night(9, 1, 0, 9, false));
    }

    private void drawnOverWhatWasTold() {
        RolledStones x = new RolledStones();
        RolledStones fresh = new RolledStones();
        fresh.draw(5);
        for (int n = 0; n < 20; n++) {
            x.night(n, 3, 99, 9, true);
        }
        s.taken(x, 1, "draw", y -> y.draw(5));
        for (int n = 0; n < 20; n++) {
            s.due("night " + n, weatherRow(x, n), weatherRow(fresh, n));
        }
        s.taken(x, 1, "the same again", y -> y.draw(5));
        s.due("all is the same", x.digest(), fresh.digest());
    }

    private void weatherOfANight() {
        RolledStones x = new RolledStones();
        x.night(19, 2, 31, 7, true);
        x.night(18, 1, 1, 1, false);
        int[] row = {2, 31, 7, 1};
        for (int what = 0; what < 4; what++) {
            int which = what;
            s.asked(x, row[what], "what " + what, y -> y.weather(19, which));
        }
        s.asked(x, 0, "a dry one", y -> y.weather(18, 3));
    }

    private void needAtTheEdges() {
        RolledStones x = new RolledStones();
        for (int shape = 0; shape < 5; shape++) {
            x.stone(shape, shape, shape == 2 ? 1 : 99);
        }
        int[] needs = {396, 792, 12, 594, 634};
        for (int stone = 0; stone < 5; stone++) {
            int number = stone;
            s.asked(x, needs[number], "to the left, " + number, y -> y.need(number, 3));
        }
        s.refused(x, Sheet.BAD, -2, "the next one", y -> y.need(5, 0));
    }
}
