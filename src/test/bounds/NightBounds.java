/** What a NIGHT does: how far a stone rolls, and what ends or turns it. */
final class NightBounds {
    private static final String TERMS = "Terms";
    private final Sheet s;

    NightBounds(Sheet sheet) {
        s = sheet;
    }

    void all() {
        s.says(TERMS, "A NIGHT: PUSH is FORCE times ICE.", this::pushIsAProduct);
        s.says(TERMS, "STONES by numbers, each once:", this::byNumbers);
        s.says(TERMS, "STONES by numbers, each once:", this::eachOnceAndOneThatWasMetToo);
        s.says(TERMS, "STONES by numbers, each once:", this::metBehindItsOwnTurn);
        s.says(TERMS, "if PUSH is NEED (by the WIND) at least, it rolls by STEPS:", this::pushAtNeed);
        s.says(TERMS, "if PUSH is NEED (by the WIND) at least, it rolls by STEPS:", this::needByTheWindAlone);
        s.says(TERMS, "1 and (PUSH less NEED) by (4 WEIGHT), cut,", this::stepsAreCut);
        s.says(TERMS, "9 at most.", this::nineAtMost);
        s.says(TERMS, "A STEP: to the next CELL by its WAY (of the WIND at first);", this::windOfEachNight);
        s.says(TERMS, "it ends ahead of the rim,", this::endsAtTheRim);
        s.says(TERMS, "a CELL with a STAKE;", this::endsAtAStake);
        meetings();
        fences();
        s.says(TERMS, "FURROWS: in a NIGHT that is WET each STEP of a STONE leaves one: from a CELL by a WAY, of that NIGHT and STONE.",
                this::furrowsOfWetNights);
        s.says(TERMS, "FURROWS: in a NIGHT that is WET each STEP of a STONE leaves one: from a CELL by a WAY, of that NIGHT and STONE.",
                this::noFurrowWithoutAStep);
        s.says(TERMS, "(200 at most are kept, the first ones.)", this::twoHundredFurrows);
        s.says(TERMS, "(200 at most are kept, the first ones.)", this::theFirstOnesAreKept);
        s.says(TERMS, "(200 at most are kept, the first ones.)", this::dryNightsTakeNoRoom);
    }

    private void meetings() {
        String met = "where another STONE lies: that one rolls in its stead by what STEPS are left (this one too) by that WAY,";
        String enough = "if PUSH is its NEED by that WAY at least; else it ends.";
        s.says(TERMS, met, this::thisStepToo);
        s.says(TERMS, met, this::lastStepHandedOn);
        s.says(TERMS, met, this::handedOnByATurnedWay);
        s.says(TERMS, met, this::handedThroughARow);
        s.says(TERMS, met, this::handedBackInARing);
        s.says(TERMS, met, this::handedOnAtTheRim);
        s.says(TERMS, met, this::handedOnAtAStake);
        s.says(TERMS, enough, this::needOfTheOtherJustMet);
        s.says(TERMS, enough, this::needOfTheOtherOneTooMuch);
        s.says(TERMS, enough, this::needByTheWayOfTheStep);
    }

    private void fences() {
        String turns = "Come to a CELL with a FENCE: 1, 2: its WAY turns (and 1, and 3, by 4 left over);";
        s.says(TERMS, turns, this::everyTurn);
        s.says(TERMS, turns, this::turnedAtTheLastStep);
        s.says(TERMS, turns, this::notComeTo);
        s.says(TERMS, turns, this::turnedRound);
        s.says(TERMS, turns, this::theOtherOneIsTurned);
        s.says(TERMS, "3: it ends there.", this::stopped);
        s.says(TERMS, "3: it ends there.", this::stoppedOneGoesOnInTheNextNight);
    }

    /** Where stones lie behind a night, three figures each. */
    private static long cells(RolledStones x, int k) {
        long row = 0;
        for (int stone = 0; stone < x.count(0); stone++) {
            row = 1000 * row + x.lies(stone, k);
        }
        return row;
    }

    // ---- pushes and steps

    private void pushIsAProduct() {
        RolledStones x = Sheet.lights(60);
        int[][] rows = {{2, 2, 61}, {3, 1, 60}, {1, 4, 61}, {0, 9, 60}, {99, 0, 60}, {0, 0, 60}, {99, 9, 69}};
        for (int[] row : rows) {
            x.night(0, 1, row[0], row[1], false);
            s.due("force " + row[0] + ", ice " + row[1], x.lies(0, 0), row[2]);
        }
        x = new RolledStones();
        x.stone(4, 0, 99);
        x.night(0, 1, 99, 9, false);
        s.due("the most of all, 891, on 634 and 396 a step", x.lies(0, 0), 1);
        x.stone(1, 24, 99);
        s.due("the egg of 792", x.lies(1, 0), 25);
    }

    private void byNumbers() {
        RolledStones x = Sheet.lights(61, 60);
        x.night(0, 1, 4, 1, false);
        s.due("the first one makes room", cells(x, 0), 62061);
    }

    private void eachOnceAndOneThatWasMetToo() {
        RolledStones x = Sheet.lights(60, 61);
        x.night(0, 1, 4, 1, false);
        s.due("a step in the other's stead, and one of its own", cells(x, 0), 60063);
    }

    private void metBehindItsOwnTurn() {
        RolledStones x = Sheet.lights(61, 60);
        x.fence(62, 3);
        x.night(0, 1, 8, 1, false);
        s.due("stopped, then rolled on by the second one's step", cells(x, 0), 63061);
    }

    private void pushAtNeed() {
        s.due("one too little", Sheet.light(60, 1, 3).lies(0, 0), 60);
        s.due("just enough", Sheet.light(60, 1, 4).lies(0, 0), 61);
        s.due("one more", Sheet.light(60, 1, 5).lies(0, 0), 61);
    }

    private void needByTheWindAlone() {
        RolledStones x = new RolledStones();
        x.stone(1, 66, 1);
        x.night(0, 1, 7, 1, false);
        s.due("an egg to the right, 7", x.lies(0, 0), 66);
        x.night(0, 1, 8, 1, false);
        s.due("an egg to the right, 8", x.lies(0, 0), 67);
        x.night(0, 3, 7, 1, false);
        s.due("an egg to the left, 7", x.lies(0, 0), 66);
        x.night(0, 0, 4, 1, false);
        s.due("an egg upwards, 4", x.lies(0, 0), 54);
        x.night(0, 2, 3, 1, false);
        s.due("an egg down, 3", x.lies(0, 0), 66);
        x.fence(54, 1);
        x.night(0, 0, 8, 1, false);
        s.due("turned to the right it goes on by the steps it has", x.lies(0, 0), 55);
        x.night(0, 0, 7, 1, false);
        s.due("a step upwards alone", x.lies(0, 0), 54);
    }

    private void stepsAreCut() {
        int[][] rows = {{0, 7, 1}, {0, 8, 2}, {0, 11, 2}, {0, 31, 7}, {0, 32, 8}, {0, 35, 8}, {0, 36, 9},
            {1, 11, 1}, {1, 12, 2}, {2, 15, 1}, {2, 16, 2}, {3, 9, 1}, {3, 10, 2}, {4, 49, 1}, {4, 50, 2}};
        for (int[] row : rows) {
            RolledStones x = new RolledStones();
            x.stone(row[0], 60, 1);
            x.night(0, 1, row[1], 1, false);
            s.due("steps of shape " + row[0] + " by " + row[1], x.work(0, 0), row[2]);
        }
        RolledStones x = new RolledStones();
        x.stone(0, 60, 25);
        x.night(0, 1, 66, 3, false);
        s.due("weight 25 by 198", x.work(0, 0), 1);
        x.night(0, 1, 50, 4, false);
        s.due("weight 25 by 200", x.work(0, 0), 2);
    }

    private void nineAtMost() {
        s.due("nine", Sheet.light(60, 1, 36).lies(0, 0), 69);
        s.due("by 39", Sheet.light(60, 1, 39).lies(0, 0), 69);
        s.due("ten would be", Sheet.light(60, 1, 40).lies(0, 0), 69);
        RolledStones x = Sheet.lights(60);
        x.night(0, 1, 99, 9, false);
        s.due("222 would be", x.work(0, 0), 9);
    }

    private void windOfEachNight() {
        RolledStones x = Sheet.lights(66);
        x.fence(67, 1);
        x.night(0, 1, 8, 1, false);
        x.night(1, 1, 4, 1, false);
        x.night(2, 0, 4, 1, false);
        s.due("right, then turned down", x.lies(0, 0), 79);
        s.due("by the wind again", x.lies(0, 1), 80);
        s.due("upwards", x.lies(0, 2), 68);
    }

    private void endsAtTheRim() {
        int[] from = {30, 33, 113, 110};
        int[] rim = {6, 35, 137, 108};
        for (int way = 0; way < 4; way++) {
            RolledStones x = Sheet.light(from[way], way, 36);
            s.due("by " + way, x.lies(0, 0), rim[way]);
            s.due("steps by " + way, x.work(0, 0), 2);
        }
        RolledStones x = Sheet.light(1, 0, 36);
        x.fence(1, 1);
        s.due("at the rim already, whatever fence is under it", x.lies(0, 0), 1);
        s.due("without a step", x.work(0, 0), 0);
    }

    private void endsAtAStake() {
        for (int cell = 61; cell <= 70; cell++) {
            RolledStones x = Sheet.light(60, 1, 36);
            x.stake(cell, true);
            s.due("a stake in " + cell, x.lies(0, 0), cell - 1);
            s.due("steps to the stake in " + cell, x.work(0, 0), cell - 61);
        }
        RolledStones x = Sheet.light(60, 1, 36);
        x.fence(62, 1);
        x.stake(62, true);
        s.due("a fence behind a stake is not come to", x.lies(0, 0), 61);
    }

    // ---- stones that meet

    private void thisStepToo() {
        RolledStones x = Sheet.lights(60, 61);
        x.night(0, 1, 12, 1, false);
        s.due("three steps in its stead, three of its own", cells(x, 0), 60067);
        x = Sheet.lights(60, 62);
        x.night(0, 1, 12, 1, false);
        s.due("one step, then two in its stead, three of its own", cells(x, 0), 61067);
    }

    private void lastStepHandedOn() {
        RolledStones x = Sheet.lights(60, 63);
        x.night(0, 1, 12, 1, false);
        s.due("two steps, the last in its stead, three of its own", cells(x, 0), 62067);
        x = Sheet.lights(60, 64);
        x.night(0, 1, 12, 1, false);
        s.due("it comes just up to it", cells(x, 0), 63067);
    }

    private void handedOnByATurnedWay() {
        RolledStones x = Sheet.lights(66, 79);
        x.fence(67, 1);
        x.night(0, 1, 12, 1, false);
        // The first one goes to 67 and is turned down; the second one rolls down two steps, then right three of its own.
        s.due("down, then by the wind", cells(x, 0), 67106);
    }

    private void handedThroughARow() {
        RolledStones x = Sheet.lights(60, 61, 62, 63, 64, 65);
        x.night(0, 1, 4, 1, false);
        // By turns: the last one; the fifth; the fourth; the last one again; the fifth and the last one by themselves.
        s.due("the first three stay", x.lies(0, 0) * 1000000L + x.lies(1, 0) * 1000 + x.lies(2, 0), 60061062);
        s.due("the others go 1, 2, 3", x.lies(3, 0) * 1000000L + x.lies(4, 0) * 1000 + x.lies(5, 0), 64066068);
        s.due("all but the first were met", x.met(0), 62);
    }

    private void handedBackInARing() {
        RolledStones x = Sheet.lights(66, 67);
        x.fence(68, 1);
        x.fence(80, 1);
        x.fence(78, 1);
        x.night(0, 1, 24, 1, false);
        // Six steps: the second one goes 68, 80, 79, 78, and upwards meets the first one in 66, which goes to 54, 42.
        s.due("the first one rolls in its own stead's stead", x.lies(0, 0), 42);
        s.due("and both count as met", x.met(0), 3);
        s.due("steps of the first one", x.which(0, 66, 0, 0), 1);
    }

    private void handedOnAtTheRim() {
        RolledStones x = Sheet.lights(70, 71);
        x.night(0, 1, 36, 1, false);
        s.due("neither moves", cells(x, 0), 70071);
        s.due("nor goes a step", x.work(0, 0) + x.work(1, 0), 0);
    }

    private void handedOnAtAStake() {
        RolledStones x = Sheet.lights(60, 61);
        x.stake(62, true);
        x.night(0, 1, 36, 1, false);
        s.due("neither moves", cells(x, 0), 60061);
    }

    private void needOfTheOtherJustMet() {
        RolledStones x = Sheet.lights(60);
        x.stone(0, 62, 2);
        x.night(0, 1, 8, 1, false);
        // Two steps: one, then the other one goes one in its stead, and one of its own.
        s.due("eight is enough", cells(x, 0), 61064);
        s.due("it was met", x.met(0), 2);
    }

    private void needOfTheOtherOneTooMuch() {
        RolledStones x = Sheet.lights(60);
        x.stone(2, 61, 1);
        x.night(0, 1, 11, 1, false);
        s.due("eleven is not: it ends, and loses its steps", cells(x, 0), 60061);
        s.due("none was met", x.met(0), 0);
        x.night(0, 1, 12, 1, false);
        s.due("twelve is: three in its stead and one of its own", cells(x, 0), 60065);
    }

    private void needByTheWayOfTheStep() {
        RolledStones x = Sheet.lights(66);
        x.stone(1, 55, 1);
        x.fence(54, 1);
        x.stake(44, true);
        x.night(0, 0, 8, 1, false);
        // To the right the egg needs 8; from there it can not go up, for the stake.
        s.due("met from the side by eight", cells(x, 0), 54056);
        x.stone(1, 40, 2);
        x.fence(39, 1);
        x.stone(0, 51, 1);
        x.stake(28, true);
        s.due("an egg of need 16 from the side", x.lies(1, 0) * 1000 + x.lies(2, 0), 56040);
    }

    // ---- fences

    private void everyTurn() {
        int[] next = {54, 67, 78, 65};
        int[] step = {-12, 1, 12, -1};
        for (int way = 0; way < 4; way++) {
            for (int kind = 0; kind < 3; kind++) {
                RolledStones x = Sheet.light(66, way, 8);
                x.fence(next[way], kind);
                int turned = (way + new int[] {0, 1, 3}[kind]) % 4;
                s.due("from " + way + " by fence " + kind, x.lies(0, 0), next[way] + step[turned]);
            }
        }
        RolledStones x = Sheet.light(66, 3, 8);
        x.fence(65, 1);
        s.due("from left to up", x.lies(0, 0), 53);
        x = Sheet.light(66, 0, 8);
        x.fence(54, 2);
        s.due("from up to left", x.lies(0, 0), 53);
    }

    private void turnedAtTheLastStep() {
        RolledStones x = Sheet.light(66, 1, 4);
        x.fence(67, 1);
        s.due("there are no steps left", x.lies(0, 0), 67);
        x.night(1, 1, 4, 1, false);
        s.due("and the next night has its own wind", x.lies(0, 1), 68);
    }

    private void notComeTo() {
        for (int kind = 1; kind <= 3; kind++) {
            RolledStones x = Sheet.light(66, 1, 12);
            x.fence(66, kind);
            s.due("under it at first: " + kind, x.lies(0, 0), 69);
            x.night(1, 3, 8, 1, false);
            x.fence(69, kind);
            s.due("under it from the night ahead: " + kind, x.lies(0, 1), 67);
        }
    }

    private void turnedRound() {
        RolledStones x = Sheet.light(66, 1, 16);
        x.fence(67, 1);
        x.fence(79, 1);
        x.fence(78, 1);
        s.due("four turns lead home", x.lies(0, 0), 66);
        x.night(0, 1, 36, 1, false);
        s.due("nine steps: home, and five more upwards", x.lies(0, 0), 6);
    }

    private void theOtherOneIsTurned() {
        RolledStones x = Sheet.lights(60, 62);
        x.fence(63, 1);
        x.fence(62, 2);
        x.stake(76, true);
        x.night(0, 1, 12, 1, false);
        // One step; the other one goes right from its own fence, is turned down by 63, one more; 76 is staked.
        s.due("by the fence it comes to", cells(x, 0), 61075);
    }

    private void stopped() {
        for (int cell = 61; cell <= 69; cell++) {
            RolledStones x = Sheet.light(60, 1, 36);
            x.fence(cell, 3);
            s.due("a fence in " + cell, x.lies(0, 0), cell);
            s.due("steps to " + cell, x.work(0, 0), cell - 60);
        }
    }

    private void stoppedOneGoesOnInTheNextNight() {
        RolledStones x = Sheet.light(60, 1, 36);
        x.fence(61, 3);
        x.fence(63, 3);
        x.night(1, 1, 36, 1, false);
        s.due("to the next fence", x.lies(0, 1), 63);
    }

    // ---- furrows

    private void furrowsOfWetNights() {
        RolledStones x = Sheet.lights(60, 63);
        x.fence(61, 3);
        x.night(0, 1, 4, 1, true);
        x.night(1, 3, 4, 1, false);
        x.night(19, 1, 4, 1, true);
        s.due("of night 0 and stone 0, to the right", x.tracks(60, 19, 0), 1);
        s.due("of stone 1", x.tracks(63, 19, 0), 11);
        s.due("a dry night leaves none", x.tracks(61, 18, -1) + x.tracks(64, 18, -1), 0);
        s.due("of night 19 and stone 0", x.tracks(60, 19, 1), 1901);
        s.due("of night 19 and stone 1", x.tracks(63, 19, 1), 1911);
    }

    private void noFurrowWithoutAStep() {
        RolledStones x = Sheet.lights(71, 60);
        x.stone(0, 62, 99);
        x.night(0, 1, 36, 1, true);
        s.due("ahead of the rim", x.tracks(71, 0, -1), 0);
        s.due("a step up to a heavy one", x.tracks(60, 0, -1), 1);
        s.due("none from there", x.tracks(61, 0, -1), 0);
        s.due("none of the heavy one", x.tracks(62, 0, -1), 0);
    }

    private static int allTracks(RolledStones x, int k) {
        int sum = 0;
        for (int cell = 0; cell < 144; cell++) {
            sum += x.tracks(cell, k, -1);
        }
        return sum;
    }

    private void twoHundredFurrows() {
        RolledStones x = Sheet.toAndFro();
        s.due("of three nights", allTracks(x, 2), 162);
        s.due("of all nights", allTracks(x, 19), 200);
        RolledStones y = Sheet.toAndFro();
        s.due("of four nights", allTracks(y, 3), 200);
        s.due("steps go on", y.work(5, 19), 180);
    }

    private void theFirstOnesAreKept() {
        RolledStones x = Sheet.toAndFro();
        // 162 of nights 0 to 2; of night 3 nine of stones 0 to 3 each, and two of stone 4, from 57 and 56.
        s.due("the 199th", x.tracks(57, 19, 1), 343);
        s.due("the 200th", x.tracks(56, 19, 3), 343);
        s.due("the 201st", x.tracks(55, 19, 3), -5);
        s.due("of stone 5 in night 3", x.tracks(69, 19, -1), 1);
        s.due("of night 4", x.tracks(0, 19, -1), 2);
        s.due("but the step was made", x.which(4, 55, 3, 3), 10);
    }

    private void dryNightsTakeNoRoom() {
        RolledStones x = Sheet.toAndFro();
        for (int n = 0; n < 16; n++) {
            x.night(n, n % 2 == 0 ? 1 : 3, 36, 1, false);
        }
        s.due("of nights 16 to 18", allTracks(x, 18), 162);
        s.due("the first of the last night", x.tracks(9, 19, 1), 1903);
        s.due("the 200th", x.tracks(56, 19, 3), 1943);
        s.due("the 201st", x.tracks(55, 19, 3), -5);
    }
}
