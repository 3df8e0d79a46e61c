/** What is looked for: promises 16 to 18 and 21 to 24, and what the Terms say of them. */
final class SearchBounds {
    private static final String TERMS = "Terms";
    private final Sheet s;

    SearchBounds(Sheet sheet) {
        s = sheet;
    }

    void all() {
        watch();
        hold();
        spring();
        steer();
        guess();
        guessWay();
        seeds();
    }

    private void watch() {
        s.says(TERMS, "WATCH: the fewest NIGHTS up to k (of 0 .. 9 alone)", this::fewestNights);
        s.says(TERMS, "so that each STONE that MOVED in some NIGHT up to k (0 .. 9) MOVED in one of these,", this::watchUpToANight);
        s.says(TERMS, "so that each STONE that MOVED in some NIGHT up to k (0 .. 9) MOVED in one of these,", this::laterNightsAreNotWatched);
        s.says(TERMS, "of like ones the least bits.", this::leastBits);
        s.says("Promise 16", "WATCH (k 0 .. 9), as bits.", this::nothingToWatch);
        s.says("Promise 16", "BAD.", () -> s.bounds("k", 0, 9, -2, Sheet::some, (x, v) -> x.watch(v)));
    }

    private void hold() {
        s.says(TERMS, "HOLD: the CELL with the least number", this::leastCellThatHolds);
        s.says(TERMS, "(no STAKE, no STONE at first, none of the first CELLS),", this::noFirstCellHolds);
        s.says(TERMS, "by a STAKE in which a STONE lies behind NIGHT k where it lay at first;", this::heldBehindThatNight);
        s.says(TERMS, "none;", this::nothingHolds);
        s.says(TERMS, "or it lies there anyhow.", this::liesThereAnyhow);
        s.says("Promise 17", "HOLD (k -1 .. 19).", this::holdAtTheFieldsEnds);
        s.says("Promise 17", "NONE.", this::nothingHolds);
        s.says("Promise 17", "-6: it lies there anyhow.", this::liesThereAnyhow);
        s.says("Promise 17", "BAD: -10.", () -> s.bounds("stone of two", 0, 1, -10, Sheet::some, (x, v) -> x.hold(v, 0)));
        s.says("Promise 17", "BAD: -10.", () -> s.bounds("k", -1, 19, -10, Sheet::some, (x, v) -> x.hold(0, v)));
        s.says("Promise 17", "BAD: -10.", () -> s.refused(new RolledStones(), Sheet.BAD, -10, "no stone at all", x -> x.hold(0, -1)));
    }

    private void spring() {
        s.says(TERMS, "SPRING: n (0 .. 8) NIGHTS, each alike of WAYS 0 to 3 by a told FORCE, ICE:", this::fewestAndMostNights);
        s.says(TERMS, "SPRING: n (0 .. 8) NIGHTS, each alike of WAYS 0 to 3 by a told FORCE, ICE:", this::needInSpring);
        s.says(TERMS, "the chance that a STONE, alone on THE FIELD (FENCES, STAKES as they are), lies in a CELL then.", this::springAlone);
        s.says(TERMS, "the chance that a STONE, alone on THE FIELD (FENCES, STAKES as they are), lies in a CELL then.", this::springSteered);
        s.says("Promise 18", "SPRING is THE FRACTION: 1.", this::springIsTheFraction);
        s.says("Promise 18", "BAD.", () -> s.bounds("stone of two", 0, 1, -2, Sheet::some, (x, v) -> x.spring(v, 1, 1, 1, 1)));
        s.says("Promise 18", "BAD.", () -> s.bounds("n", 0, 8, -2, Sheet::some, (x, v) -> x.spring(0, v, 1, 1, 1)));
        s.says("Promise 18", "BAD.", () -> s.bounds("force", 0, 99, -2, Sheet::some, (x, v) -> x.spring(0, 1, v, 1, 1)));
        s.says("Promise 18", "BAD.", () -> s.bounds("ice", 0, 9, -2, Sheet::some, (x, v) -> x.spring(0, 1, 1, v, 1)));
        s.says("Promise 18", "BAD.", () -> s.bounds("cell", 0, 143, -2, Sheet::some, (x, v) -> x.spring(0, 1, 1, 1, v)));
    }

    private void steer() {
        s.says(TERMS, "STEER: of CELLS without a STAKE,", this::notWhereAStakeStands);
        s.says(TERMS, "and FENCES 1 to 3 there (in place of what is),", this::inPlaceOfWhatIs);
        s.says(TERMS, "the first (by CELL, then FENCE)", this::firstByCellThenFence);
        s.says(TERMS, "by which a STONE lies in a told CELL behind NIGHT k; none.", this::steeredNowhere);
        s.says("Promise 21", "STEER (k -1 .. 19): 10 times the CELL, and the FENCE.", this::steerUpToANight);
        s.says("Promise 21", "NONE.", this::steeredNowhere);
        s.says("Promise 21", "BAD: -10.", () -> s.bounds("stone of two", 0, 1, -10, Sheet::some, (x, v) -> x.steer(v, 1, 0)));
        s.says("Promise 21", "BAD: -10.", () -> s.bounds("cell", 0, 143, -10, Sheet::some, (x, v) -> x.steer(0, v, 0)));
        s.says("Promise 21", "BAD: -10.", () -> s.bounds("k", -1, 19, -10, Sheet::some, (x, v) -> x.steer(0, 1, v)));
    }

    private void guess() {
        s.says(TERMS, "GUESS: for NIGHT n all WAYS, FORCES 0 .. 99, ICES 0 .. 9 are tried in place of its own (WET as it is):", this::allWeatherIsTried);
        s.says(TERMS, "GUESS: for NIGHT n all WAYS, FORCES 0 .. 99, ICES 0 .. 9 are tried in place of its own (WET as it is):", this::theLastWeatherOfAll);
        s.says(TERMS, "those by which all STONES that were FOUND lie so behind their NIGHT", this::allThatWereFound);
        s.says(TERMS, "those by which all STONES that were FOUND lie so behind their NIGHT", this::guessBehindTheNightFound);
        s.says(TERMS, "those by which all STONES that were FOUND lie so behind their NIGHT", this::guessOfTheLastStone);
        s.says(TERMS, "those by which all STONES that were FOUND lie so behind their NIGHT", this::guessWithOneMetFromTheSide);
        s.says(TERMS, "(NO: nothing was FOUND):", this::guessWithNothingFound);
        s.says(TERMS, "how many, the first (by WAY, FORCE, ICE),", this::howManyAndTheFirst);
        s.says("Promise 22", "GUESS: how many (0), the first: 1000 times the WAY, 10 times FORCE, and ICE (1).", this::howManyAndTheFirst);
        s.says("Promise 22", "NONE.", this::noWeatherDoesIt);
        s.says("Promise 22", "BAD: -10;", () -> s.bounds("night", 0, 19, -10, Sheet::some, (x, v) -> x.guess(v, 0)));
        s.says("Promise 22", "BAD: -10;", () -> s.bounds("what", 0, 1, -10, Sheet::some, (x, v) -> x.guess(0, v)));
        s.says("Promise 22", "NO: -20.", this::guessWithNothingFound);
    }

    private void guessWay() {
        s.says(TERMS, "the share of a WAY (NO: there are none).", this::sharesOfWays);
        s.says("Promise 23", "GUESS: the share of a WAY is THE FRACTION: 1.", this::sharesOfWays);
        s.says("Promise 23", "BAD;", () -> s.bounds("night", 0, 19, -2, SearchBounds::atHome, (x, v) -> x.guessWay(v, 0)));
        s.says("Promise 23", "BAD;", () -> s.bounds("way", 0, 3, -2, SearchBounds::atHome, (x, v) -> x.guessWay(0, v)));
        s.says("Promise 23", "NO.", this::noShareOfNone);
        s.says("Promise 23", "NO.", this::noShareWithNothingFound);
    }

    private void seeds() {
        s.says(TERMS, "SEEDS: of SEEDS a to a and n (0 .. 99; 999999 at most)", this::bothEndsOfTheSeeds);
        s.says(TERMS, "SEEDS: of SEEDS a to a and n (0 .. 99; 999999 at most)", this::noSeedPastTheLast);
        s.says(TERMS, "the least by whose NIGHTS, were they DRAWN, all STONES that were FOUND lie so; none.", this::leastSeed);
        s.says("Promise 24", "SEEDS.", this::seedsChangeNothing);
        s.says("Promise 24", "NONE.", this::noSeedDoesIt);
        s.says("Promise 24", "BAD: -10;", () -> s.bounds("a", 0, 999999, -10, Sheet::some, (x, v) -> x.seeds(v, 0)));
        s.says("Promise 24", "BAD: -10;", () -> s.bounds("n", 0, 99, -10, Sheet::some, (x, v) -> x.seeds(5, v)));
        s.says("Promise 24", "NO: -20: nothing was FOUND.", this::seedsWithNothingFound);
    }

    // ---- watch

    private void fewestNights() {
        RolledStones x = Sheet.lights(60);
        x.stone(0, 23, 2);
        x.night(0, 1, 4, 1, false);
        x.night(1, 3, 8, 1, false);
        // Night 0 moves the first one alone; night 1 both.
        s.asked(x, 1, "moved in 0", y -> y.moved(0));
        s.asked(x, 3, "moved in 1", y -> y.moved(1));
        s.asked(x, 2, "one night is fewer than two", y -> y.watch(9));
    }

    private void watchUpToANight() {
        RolledStones x = Sheet.lights(60);
        x.night(9, 1, 4, 1, false);
        x.night(10, 1, 4, 1, false);
        s.asked(x, 0, "up to 8", y -> y.watch(8));
        s.asked(x, 512, "up to 9", y -> y.watch(9));
        x.night(9, 0, 0, 0, false);
        s.asked(x, 0, "nights past 9 are not looked at", y -> y.watch(9));
        x.night(0, 1, 4, 1, false);
        s.asked(x, 1, "the first night alone", y -> y.watch(0));
    }

    private void laterNightsAreNotWatched() {
        RolledStones x = Sheet.lights(0, 71);
        x.night(0, 1, 4, 1, false);
        x.night(1, 0, 4, 1, false);
        x.night(2, 2, 4, 1, false);
        // The first one moves in night 0, the second one in night 1, both in night 2.
        int[] watched = {1, 3, 4};
        for (int k = 0; k < 3; k++) {
            int last = k;
            s.asked(x, k + 1, "moved in " + k, y -> y.moved(last));
            x.lies(0, 19);
            s.asked(x, watched[k], "up to " + k + ", when later nights have been looked at", y -> y.watch(last));
        }
    }

    private void leastBits() {
        RolledStones x = Sheet.toAndFro();
        s.asked(x, 1, "the first of ten alike", y -> y.watch(9));
        x = Sheet.lights(22, 71, 0);
        x.stone(0, 100, 2);
        x.night(0, 0, 4, 1, false);
        x.night(1, 1, 4, 1, false);
        x.night(2, 0, 8, 1, false);
        x.night(3, 1, 8, 1, false);
        int[] moved = {3, 5, 10, 12};
        for (int n = 0; n < 4; n++) {
            int night = n;
            s.asked(x, moved[n], "moved in " + n, y -> y.moved(night));
        }
        s.asked(x, 6, "1 and 2, not 0 and 3", y -> y.watch(9));
    }

    private void nothingToWatch() {
        s.asked(new RolledStones(), 0, "no stones", x -> x.watch(9));
        s.asked(Sheet.lights(60), 0, "calm nights", x -> x.watch(0));
    }

    // ---- hold

    private void leastCellThatHolds() {
        RolledStones x = Sheet.light(71, 3, 36);
        x.night(1, 1, 32, 1, false);
        s.asked(x, 70, "nine to the left, eight back", y -> y.lies(0, 1));
        // Any stake from 62 to 70 makes it turn back so early that it comes home.
        s.asked(x, 62, "the least of them", y -> y.hold(0, 1));
    }

    private void noFirstCellHolds() {
        RolledStones x = Sheet.lights(61, 60);
        x.night(0, 1, 36, 1, false);
        s.asked(x, 69, "the second one rolls", y -> y.lies(1, 0));
        s.asked(x, 62, "not in the other one's first cell, but behind it", y -> y.hold(1, 0));
        x = Sheet.lights(66);
        x.stone(0, 67, 99);
        x.night(0, 0, 4, 1, false);
        x.night(1, 1, 36, 1, false);
        x.night(2, 2, 4, 1, false);
        // Up, to the right, down: only a stake in 55 brings it back.
        s.asked(x, 55, "beside the first cells", y -> y.hold(0, 2));
        x.stake(55, true);
        x.stake(53, true);
        s.asked(x, -6, "a stake is there now", y -> y.hold(0, 2));
        s.due("stakes", x.count(1), 2);
    }

    private void heldBehindThatNight() {
        RolledStones x = Sheet.light(66, 1, 4);
        x.night(19, 0, 4, 1, false);
        s.asked(x, 67, "behind night 0", y -> y.hold(0, 0));
        s.asked(x, 67, "behind night 18", y -> y.hold(0, 18));
        s.asked(x, -1, "behind night 19 one stake does not do", y -> y.hold(0, 19));
    }

    private void nothingHolds() {
        RolledStones x = Sheet.light(66, 1, 4);
        x.night(1, 2, 4, 1, false);
        s.asked(x, -1, "to the right and down", y -> y.hold(0, 1));
        s.asked(x, -1, "later, too", y -> y.hold(0, 19));
    }

    private void liesThereAnyhow() {
        RolledStones x = Sheet.light(60, 1, 36);
        s.asked(x, -6, "at first", y -> y.hold(0, -1));
        x.night(1, 3, 36, 1, false);
        s.asked(x, -6, "there and back", y -> y.hold(0, 1));
        s.asked(x, -6, "at the end", y -> y.hold(0, 19));
        x.stake(61, true);
        s.asked(x, -6, "held by a stake that is there", y -> y.hold(0, 0));
    }

    private void holdAtTheFieldsEnds() {
        s.asked(Sheet.light(1, 3, 4), 0, "the first cell", x -> x.hold(0, 0));
        s.asked(Sheet.light(142, 1, 4), 143, "the last cell", x -> x.hold(0, 0));
        s.asked(Sheet.light(12, 0, 4), 0, "the first cell, from below", x -> x.hold(0, 19));
        s.asked(Sheet.light(131, 2, 4), 143, "the last cell, from above", x -> x.hold(0, 19));
    }

    // ---- spring

    /** The chance of a cell, and that the call and THE FRACTION are as due. */
    private void chance(RolledStones x, int stone, int[] how, int cell, long above, long below) {
        String what = "n " + how[0] + ", force " + how[1] + ", ice " + how[2] + ", cell " + cell;
        s.taken(x, 1, what, y -> y.spring(stone, how[0], how[1], how[2], cell));
        s.due(what + ", above", x.part(0), above);
        s.due(what + ", below", x.part(1), below);
    }

    private void fewestAndMostNights() {
        RolledStones x = Sheet.lights(66);
        chance(x, 0, new int[] {0, 99, 9}, 66, 1, 1);
        chance(x, 0, new int[] {0, 99, 9}, 67, 0, 1);
        for (int cell : new int[] {54, 65, 67, 78}) {
            chance(x, 0, new int[] {1, 4, 1}, cell, 1, 4);
        }
        chance(x, 0, new int[] {1, 4, 1}, 66, 0, 1);
        chance(x, 0, new int[] {2, 4, 1}, 66, 1, 4);
        chance(x, 0, new int[] {2, 4, 1}, 55, 1, 8);
        // Eight steps of four ways: 70 times 70 of 65536 come home, 70 go four down and four right.
        chance(x, 0, new int[] {8, 4, 1}, 66, 1225, 16384);
        chance(x, 0, new int[] {8, 4, 1}, 66 + 4 * 13, 35, 32768);
        chance(x, 0, new int[] {8, 4, 1}, 67, 0, 1);
        RolledStones corner = Sheet.lights(0);
        chance(corner, 0, new int[] {1, 4, 1}, 0, 1, 2);
        chance(corner, 0, new int[] {2, 4, 1}, 0, 3, 8);
        RolledStones end = Sheet.lights(143);
        chance(end, 0, new int[] {1, 36, 1}, 143 - 9, 1, 4);
        chance(end, 0, new int[] {1, 36, 1}, 143, 1, 2);
    }

    private void needInSpring() {
        RolledStones x = Sheet.lights(66);
        x.stone(1, 100, 1);
        chance(x, 0, new int[] {8, 3, 1}, 66, 1, 1);
        chance(x, 0, new int[] {8, 99, 0}, 66, 1, 1);
        chance(x, 0, new int[] {8, 0, 9}, 66, 1, 1);
        chance(x, 0, new int[] {1, 2, 2}, 54, 1, 4);
        chance(x, 1, new int[] {1, 7, 1}, 100, 1, 2);
        chance(x, 1, new int[] {1, 7, 1}, 88, 1, 4);
        chance(x, 1, new int[] {1, 7, 1}, 101, 0, 1);
        chance(x, 1, new int[] {1, 8, 1}, 101, 1, 4);
        chance(x, 1, new int[] {1, 8, 1}, 76, 1, 4);
    }

    private void springAlone() {
        RolledStones x = Sheet.lights(66);
        x.stone(2, 67, 99);
        x.night(0, 1, 4, 1, false);
        x.night(1, 2, 4, 1, false);
        chance(x, 0, new int[] {0, 4, 1}, 66, 1, 1);
        chance(x, 0, new int[] {1, 4, 1}, 67, 1, 4);
        chance(x, 0, new int[] {2, 4, 1}, 68, 1, 16);
        chance(x, 1, new int[] {1, 99, 9}, 67, 1, 1);
        x.lies(0, 19);
        chance(x, 0, new int[] {2, 4, 1}, 68, 1, 16);
    }

    private void springSteered() {
        RolledStones x = Sheet.lights(66);
        x.stake(54, true);
        x.fence(67, 1);
        x.fence(78, 3);
        chance(x, 0, new int[] {1, 8, 1}, 66, 1, 4);
        chance(x, 0, new int[] {1, 8, 1}, 79, 1, 4);
        chance(x, 0, new int[] {1, 8, 1}, 78, 1, 4);
        chance(x, 0, new int[] {1, 8, 1}, 64, 1, 4);
        chance(x, 0, new int[] {1, 8, 1}, 54, 0, 1);
        s.due("stakes", x.count(1), 1);
    }

    private void springIsTheFraction() {
        RolledStones x = Sheet.lights(0);
        s.taken(x, 1, "spring", y -> y.spring(0, 2, 4, 1, 0));
        s.due("six of sixteen in lowest terms, above", x.part(0), 3);
        s.due("six of sixteen in lowest terms, below", x.part(1), 8);
        s.refused(x, Sheet.BAD, -2, "a refused one leaves it", y -> y.spring(0, 9, 4, 1, 1));
        s.due("below still", x.part(1), 8);
        s.taken(x, 1, "no chance", y -> y.spring(0, 1, 4, 1, 143));
        s.due("above nothing", x.part(0), 0);
        s.due("below one", x.part(1), 1);
    }

    // ---- steer

    private void notWhereAStakeStands() {
        RolledStones x = Sheet.light(60, 1, 4);
        for (int cell = 0; cell < 144; cell++) {
            if (cell != 60 && cell != 143) {
                x.stake(cell, true);
            }
        }
        s.asked(x, 601, "its own cell is the first without one", y -> y.steer(0, 60, 0));
        RolledStones free = Sheet.light(60, 1, 4);
        s.asked(free, 1, "it comes there anyhow", y -> y.steer(0, 61, 0));
        free.stake(0, true);
        s.asked(free, 11, "a stake in the first cell", y -> y.steer(0, 61, 0));
        free.stake(1, true);
        s.asked(free, 21, "a stake in the second, too", y -> y.steer(0, 61, 0));
    }

    private void inPlaceOfWhatIs() {
        RolledStones x = Sheet.light(60, 1, 12);
        x.fence(61, 3);
        s.asked(x, 611, "to the right in place of a stop", y -> y.steer(0, 85, 0));
        s.asked(x, 612, "to the left in place of a stop", y -> y.steer(0, 37, 0));
        s.asked(x, -1, "but none is no fence", y -> y.steer(0, 63, 0));
        s.asked(x, 1, "as it is", y -> y.steer(0, 61, 0));
        x.fence(61, 1);
        s.asked(x, 613, "a stop in place of a turn", y -> y.steer(0, 61, 0));
    }

    private void firstByCellThenFence() {
        RolledStones x = Sheet.light(66, 1, 12);
        s.asked(x, 671, "turned to the right at once", y -> y.steer(0, 91, 0));
        s.asked(x, 681, "a cell later", y -> y.steer(0, 80, 0));
        s.asked(x, 682, "to the left", y -> y.steer(0, 56, 0));
        s.asked(x, 673, "stopped", y -> y.steer(0, 67, 0));
        s.asked(Sheet.light(141, 1, 12), 1432, "in the last cell", y -> y.steer(0, 131, 0));
        s.asked(Sheet.light(2, 3, 12), 2, "in the first cell", y -> y.steer(0, 12, 0));
    }

    private void steeredNowhere() {
        RolledStones x = Sheet.light(66, 1, 12);
        s.asked(x, -1, "against the wind", y -> y.steer(0, 65, 0));
        s.asked(x, -1, "home, by one fence", y -> y.steer(0, 66, 0));
        s.asked(x, -1, "at first, elsewhere", y -> y.steer(0, 67, -1));
        x.stake(67, true);
        s.asked(x, -1, "where a stake stands", y -> y.steer(0, 67, 0));
    }

    private void steerUpToANight() {
        RolledStones x = Sheet.light(66, 1, 8);
        x.night(19, 2, 8, 1, false);
        s.asked(x, 1, "at first, where it lies", y -> y.steer(0, 66, -1));
        s.asked(x, 673, "behind the first night", y -> y.steer(0, 67, 0));
        s.asked(x, 673, "behind the last but one", y -> y.steer(0, 67, 18));
        s.asked(x, 673, "stopped at 67, then down", y -> y.steer(0, 91, 19));
        s.asked(x, 671, "turned to 79, then down", y -> y.steer(0, 103, 19));
    }

    // ---- guess

    /** How many of forces 0 .. 99 and ices 0 .. 9 make a push from low to high. */
    private static int pushes(int low, int high) {
        int many = 0;
        for (int i = 0; i < 1000; i++) {
            int push = i / 10 * (i % 10);
            many += push >= low && push <= high ? 1 : 0;
        }
        return many;
    }

    /** A light stone that was found behind night 0 where it lay at first. */
    private static RolledStones atHome() {
        RolledStones x = Sheet.lights(66);
        x.found(0, 0, 66);
        return x;
    }

    private void allWeatherIsTried() {
        RolledStones x = atHome();
        s.asked(x, 4 * 114, "pushes 0 to 3 by four ways", y -> y.guess(0, 0));
        s.asked(x, 0, "the first of all", y -> y.guess(0, 1));
        s.asked(x, 4000, "all of a night behind", y -> y.guess(1, 0));
        s.asked(x, 4000, "all of the last night", y -> y.guess(19, 0));
        x.night(0, 1, 50, 5, true);
        s.asked(x, 4 * 114, "in place of its own", y -> y.guess(0, 0));
        s.due("its own force", x.weather(0, 1), 50);
        s.due("wet as it is", x.weather(0, 3), 1);
    }

    private void theLastWeatherOfAll() {
        RolledStones x = new RolledStones();
        x.stone(2, 66, 74);
        x.found(0, 0, 65);
        s.asked(x, 1, "a need of 888 is met by 99 times 9 alone", y -> y.guess(0, 0));
        s.asked(x, 3999, "to the left", y -> y.guess(0, 1));
        x.found(0, 0, 54);
        s.asked(x, 999, "upwards", y -> y.guess(0, 1));
    }

    private void allThatWereFound() {
        RolledStones x = Sheet.lights(66);
        x.stone(0, 30, 2);
        x.stone(0, 100, 3);
        x.found(0, 0, 67);
        s.asked(x, 11, "one step of the first one: pushes 4 to 7", y -> y.guess(0, 0));
        x.found(0, 0, 68);
        s.asked(x, pushes(8, 11), "two steps of the first one", y -> y.guess(0, 0));
        x.found(0, 1, 31);
        s.asked(x, pushes(8, 11), "and one of the second one", y -> y.guess(0, 0));
        x.found(0, 1, 30);
        s.asked(x, 0, "the second one stays: not by both", y -> y.guess(0, 0));
        x.found(0, 1, 31);
        x.found(0, 2, 101);
        s.asked(x, 0, "and the third one goes: not by all", y -> y.guess(0, 0));
    }

    private void guessBehindTheNightFound() {
        RolledStones x = Sheet.light(66, 1, 4);
        x.night(1, 3, 4, 1, false);
        x.found(1, 0, 66);
        s.asked(x, 11, "night 0: one to the right", y -> y.guess(0, 0));
        s.asked(x, 1014, "namely", y -> y.guess(0, 1));
        s.asked(x, 3014, "night 1: one to the left", y -> y.guess(1, 1));
        s.asked(x, 4000, "night 2 does nothing to it", y -> y.guess(2, 0));
        x.found(19, 0, 66);
        s.asked(x, 4 * 114, "night 2 has to leave it there", y -> y.guess(2, 0));
        s.asked(x, 4 * 114, "the last one, too", y -> y.guess(19, 0));
    }

    private void guessOfTheLastStone() {
        RolledStones x = Sheet.lights(0, 12, 24, 36, 48, 60);
        x.night(0, 1, 8, 1, false);
        x.night(19, 1, 4, 1, false);
        x.found(19, 5, 64);
        // Two, then one that is looked for, then one to the right again.
        s.asked(x, 11, "pushes 4 to 7", y -> y.guess(1, 0));
        s.asked(x, 1014, "to the right", y -> y.guess(1, 1));
        s.asked(x, pushes(8, 11), "night 19 may go two", y -> y.guess(19, 0));
    }

    private void guessWithOneMetFromTheSide() {
        RolledStones x = new RolledStones();
        x.stone(0, 66, 25);
        x.stone(1, 79, 60);
        x.fence(67, 1);
        x.found(0, 1, 91);
        // To the right: the first one is turned down and meets the egg, whose NEED is 240 so, with one step left of two.
        // Down: the egg goes a step of its own.
        s.asked(x, pushes(240, 299) + pushes(240, 479), "from the side and by itself", y -> y.guess(0, 0));
        s.asked(x, 1279, "the first: 27 by 9", y -> y.guess(0, 1));
        RolledStones y = new RolledStones();
        y.stone(0, 66, 25);
        y.stone(1, 55, 35);
        y.fence(54, 1);
        y.stake(43, true);
        y.stake(44, true);
        y.found(0, 1, 56);
        // Upwards: the first one is turned to the right and meets the egg, whose NEED is 280 so, and which can not go up.
        // By itself to the right the egg goes one by 280 to 419.
        s.asked(y, pushes(280, 299) + pushes(280, 419), "just its need", z -> z.guess(0, 0));
        RolledStones left = new RolledStones();
        left.stone(0, 66, 25);
        left.stone(1, 53, 60);
        left.fence(65, 1);
        left.found(0, 1, 41);
        s.asked(left, pushes(240, 299) + pushes(240, 479), "to the left, turned upwards, and upwards by itself", z -> z.guess(0, 0));
    }

    private void guessWithNothingFound() {
        RolledStones x = Sheet.lights(66);
        s.refused(x, Sheet.NO, -20, "how many", y -> y.guess(0, 0));
        s.refused(x, Sheet.NO, -20, "the first", y -> y.guess(19, 1));
        s.refused(x, Sheet.BAD, -10, "BAD comes first: a night", y -> y.guess(20, 0));
        s.refused(x, Sheet.BAD, -10, "BAD comes first: a what", y -> y.guess(0, 2));
        s.refused(new RolledStones(), Sheet.NO, -20, "no stones", y -> y.guess(0, 0));
    }

    private void howManyAndTheFirst() {
        RolledStones x = Sheet.lights(66);
        int[] cells = {54, 67, 78, 65};
        for (int way = 0; way < 4; way++) {
            x.found(0, 0, cells[way]);
            s.asked(x, 11, "how many by " + way, y -> y.guess(0, 0));
            s.asked(x, 1000 * way + 14, "the first by " + way, y -> y.guess(0, 1));
        }
        x.found(0, 0, 66);
        x.fence(54, 3);
        x.stake(54, true);
        s.asked(x, 1000 + 3 * 114, "upwards it is held", y -> y.guess(0, 0));
    }

    private void noWeatherDoesIt() {
        RolledStones x = Sheet.lights(66);
        x.found(0, 0, 0);
        s.asked(x, 0, "how many", y -> y.guess(0, 0));
        s.asked(x, -1, "the first", y -> y.guess(0, 1));
    }

    private void share(RolledStones x, int way, long above, long below) {
        s.taken(x, 1, "share of " + way, y -> y.guessWay(0, way));
        s.due("above, way " + way, x.part(0), above);
        s.due("below, way " + way, x.part(1), below);
    }

    private void sharesOfWays() {
        RolledStones x = atHome();
        for (int way = 0; way < 4; way++) {
            share(x, way, 1, 4);
        }
        x.stake(54, true);
        // Upwards all 1000 leave it there, by the other ways 114 each: of 1342.
        share(x, 0, 500, 671);
        share(x, 1, 57, 671);
        share(x, 3, 57, 671);
        x.found(0, 0, 67);
        share(x, 1, 1, 1);
        share(x, 2, 0, 1);
    }

    private void noShareOfNone() {
        RolledStones x = atHome();
        x.guessWay(0, 1);
        x.found(0, 0, 0);
        s.refused(x, Sheet.NO, -3, "there are none", y -> y.guessWay(0, 1));
        s.due("the fraction stays", x.part(1), 4);
        s.refused(x, Sheet.BAD, -2, "BAD comes first", y -> y.guessWay(0, 4));
    }

    private void noShareWithNothingFound() {
        RolledStones x = Sheet.lights(66);
        s.refused(x, Sheet.NO, -3, "nothing was found", y -> y.guessWay(0, 1));
        s.refused(x, Sheet.BAD, -2, "BAD comes first: a night", y -> y.guessWay(-1, 1));
        s.refused(x, Sheet.BAD, -2, "BAD comes first: a way", y -> y.guessWay(0, -1));
    }

    // ---- seeds

    /** Where a ROUND stone of weight 25 in 66 lies behind night 0 of a seed. */
    private static int behindNight0(int seed) {
        long[] d = new long[3];
        long drawn = seed;
        for (int i = 0; i < 3; i++) {
            drawn = drawn * 1103515245L + 12345L & 0x7FFFFFFFL;
            d[i] = drawn >> 16;
        }
        int way = (int) (d[0] % 4);
        int push = (int) (d[1] % 100 * (d[2] % 10));
        int steps = push < 100 ? 0 : Math.min(new int[] {5, 5, 6, 6}[way], push / 100);
        return 66 + steps * new int[] {-12, 1, 12, -1}[way];
    }

    private static RolledStones foundOfSeed(int seed) {
        RolledStones x = new RolledStones();
        x.stone(0, 66, 25);
        x.found(0, 0, behindNight0(seed));
        return x;
    }

    /** The next seed that leads to another cell than each of the hundred seeds ahead of it. */
    private static int seedBehind(int seed) {
        for (int next = Math.max(100, seed); next < 1000000; next++) {
            int like = 0;
            for (int ahead = next - 100; ahead < next; ahead++) {
                like += behindNight0(ahead) == behindNight0(next) ? 1 : 0;
            }
            if (like == 0) {
                return next;
            }
        }
        return -1;
    }

    private void bothEndsOfTheSeeds() {
        for (int begin : new int[] {100, 5000, 700000}) {
            int seed = seedBehind(begin);
            RolledStones x = foundOfSeed(seed);
            s.asked(x, seed, "itself alone", y -> y.seeds(seed, 0));
            s.asked(x, seed, "it is the last of two", y -> y.seeds(seed - 1, 1));
            s.asked(x, seed, "it is the first of a hundred", y -> y.seeds(seed, 99));
            s.asked(x, seed, "it is the last of a hundred", y -> y.seeds(seed - 99, 99));
            s.asked(x, -1, "it is one behind the last", y -> y.seeds(seed - 100, 99));
            s.asked(x, -1, "it is one behind the one", y -> y.seeds(seed - 1, 0));
        }
        s.asked(foundOfSeed(0), 0, "the first of all seeds", y -> y.seeds(0, 0));
    }

    private void noSeedPastTheLast() {
        RolledStones x = foundOfSeed(999999);
        s.asked(x, 999999, "the last seed", y -> y.seeds(999999, 0));
        s.asked(x, 999999, "what lies past it is left out", y -> y.seeds(999999, 99));
        RolledStones past = foundOfSeed(1000000);
        s.due("another cell than the last seed's", behindNight0(1000000) == behindNight0(999999) ? 1 : 0, 0);
        s.asked(past, -1, "a seed past the last is none", y -> y.seeds(999999, 1));
    }

    private void leastSeed() {
        RolledStones x = new RolledStones();
        x.stone(0, 66, 25);
        x.found(0, 0, 66);
        int least = 0;
        while (behindNight0(least) != 66) {
            least++;
        }
        int first = least;
        s.asked(x, first, "the least of many", y -> y.seeds(0, 99));
        x.stone(0, 30, 99);
        x.found(0, 1, 31);
        s.asked(x, -1, "all that were found: a heavier one can not go alone", y -> y.seeds(0, 99));
    }

    private void seedsChangeNothing() {
        RolledStones x = Sheet.some();
        x.night(19, 3, 7, 7, true);
        s.asked(x, x.seeds(0, 50), "asked again", y -> y.seeds(0, 50));
        s.due("force of night 19", x.weather(19, 1), 7);
    }

    private void noSeedDoesIt() {
        RolledStones x = new RolledStones();
        x.stone(0, 66, 25);
        x.found(0, 0, 0);
        s.asked(x, -1, "a corner is too far", y -> y.seeds(0, 99));
    }

    private void seedsWithNothingFound() {
        RolledStones x = Sheet.lights(66);
        s.refused(x, Sheet.NO, -20, "nothing was found", y -> y.seeds(0, 99));
        s.refused(x, Sheet.BAD, -10, "BAD comes first: a", y -> y.seeds(1000000, 0));
        s.refused(x, Sheet.BAD, -10, "BAD comes first: n", y -> y.seeds(0, 100));
    }
}
