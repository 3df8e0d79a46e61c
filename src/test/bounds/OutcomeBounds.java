/** What came of the NIGHTS: promises 9 to 15, 19 and 20, and what the Terms say of them. */
final class OutcomeBounds {
    private static final String TERMS = "Terms";
    private final Sheet s;

    OutcomeBounds(Sheet sheet) {
        s = sheet;
    }

    void all() {
        terms();
        liesMovedWork();
        tracksAndWhich();
        foundAndProof();
        aloneAndMet();
    }

    private void terms() {
        s.says(TERMS, "2 BEHIND NIGHT k: where STONES lie when NIGHTS 0 to k have gone from the first CELLS (k -1: at first).",
                this::behindEachNight);
        s.says(TERMS, "MOVED: bits of STONES that lie elsewhere behind NIGHT k than ahead of it.", this::cameHomeDidNotMove);
        s.says(TERMS, "MOVED: bits of STONES that lie elsewhere behind NIGHT k than ahead of it.", this::aheadOfThatNight);
        s.says(TERMS, "WORK of a STONE: how many STEPS it went in all.", this::workIsSteps);
        s.says(TERMS, "PROOF: told where STONES were found behind NIGHT k (a CELL each): bits of those that do not lie there:"
                + " somebody pushed; none: nobody did.", this::pushedOrNot);
        s.says(TERMS, "WHICH: bits of NIGHTS up to k in which a STONE went a STEP from a CELL by a WAY, WET or not.", this::whichNights);
        s.says(TERMS, "TRACKS of a CELL by NIGHTS up to k: how many FURROWS lead from it; the i-th: 100 times the NIGHT,"
                + " and 10 times the STONE, and the WAY, as they were made.", this::tracksAsTheyWereMade);
        s.says(TERMS, "ALONE: where a STONE would lie behind NIGHT k, how many STEPS it would have gone, alone on THE FIELD.",
                this::nobodyInTheWay);
        s.says(TERMS, "MET: bits of STONES that rolled in another one's stead in NIGHT n.", this::metOfThatNightAlone);
        s.says(TERMS, "MET: bits of STONES that rolled in another one's stead in NIGHT n.", this::metNobody);
    }

    private void liesMovedWork() {
        s.says("Promise 9", "The CELL of a STONE behind NIGHT k (-1 .. 19).", this::behindEachNight);
        s.says("Promise 9", "BAD.", () -> s.bounds("k", -1, 19, -2, Sheet::some, (x, v) -> x.lies(0, v)));
        s.says("Promise 9", "BAD.", () -> s.bounds("stone of two", 0, 1, -2, Sheet::some, (x, v) -> x.lies(v, 0)));
        s.says("Promise 9", "BAD.", () -> s.bounds("stone of six", 0, 5, -2, Sheet::toAndFro, (x, v) -> x.lies(v, 0)));
        s.says("Promise 9", "BAD.", () -> s.refused(new RolledStones(), Sheet.BAD, -2, "no stone at all", x -> x.lies(0, 0)));
        s.says("Promise 10", "MOVED, as bits.", this::movedBits);
        s.says("Promise 10", "BAD (k 0 .. 19).", () -> s.bounds("k", 0, 19, -2, Sheet::some, (x, v) -> x.moved(v)));
        s.says("Promise 11", "WORK up to NIGHT k (-1 .. 19).", this::workUpToANight);
        s.says("Promise 11", "BAD.", () -> s.bounds("k", -1, 19, -2, Sheet::some, (x, v) -> x.work(0, v)));
        s.says("Promise 11", "BAD.", () -> s.bounds("stone of two", 0, 1, -2, Sheet::some, (x, v) -> x.work(v, 0)));
    }

    private void tracksAndWhich() {
        s.says("Promise 12", "TRACKS (k -1 .. 19): how many (i = NONE), the i-th.", this::tracksUpToANight);
        s.says("Promise 12", "-5: not so many.", this::notSoManyTracks);
        s.says("Promise 12", "BAD: -10.", () -> s.bounds("cell", 0, 143, -10, Sheet::some, (x, v) -> x.tracks(v, 0, -1)));
        s.says("Promise 12", "BAD: -10.", () -> s.bounds("k", -1, 19, -10, Sheet::some, (x, v) -> x.tracks(60, v, -1)));
        s.says("Promise 12", "BAD: -10.", this::tracksBelowNone);
        s.says("Promise 13", "WHICH (k -1 .. 19), as bits.", this::whichUpToANight);
        s.says("Promise 13", "BAD.", () -> s.bounds("stone of two", 0, 1, -2, Sheet::some, (x, v) -> x.which(v, 60, 1, 0)));
        s.says("Promise 13", "BAD.", () -> s.bounds("cell", 0, 143, -2, Sheet::some, (x, v) -> x.which(0, v, 1, 0)));
        s.says("Promise 13", "BAD.", () -> s.bounds("way", 0, 3, -2, Sheet::some, (x, v) -> x.which(0, 60, v, 0)));
        s.says("Promise 13", "BAD.", () -> s.bounds("k", -1, 19, -2, Sheet::some, (x, v) -> x.which(0, 60, 1, v)));
    }

    private void foundAndProof() {
        s.says("Promise 14", "FOUND: behind NIGHT k (0 .. 19) a STONE was in a CELL", this::foundAnywhere);
        s.says("Promise 14", "(for another k than before: of all STONES nothing is told any more): 1.", this::foundForAnotherNight);
        s.says("Promise 14", "(for another k than before: of all STONES nothing is told any more): 1.", this::foundForTheSameNight);
        s.says("Promise 14", "(for another k than before: of all STONES nothing is told any more): 1.", this::refusedForAnotherNight);
        s.says("Promise 14", "BAD.", () -> s.bounds("k", 0, 19, -2, Sheet::some, (x, v) -> x.found(v, 0, 1)));
        s.says("Promise 14", "BAD.", () -> s.bounds("stone of two", 0, 1, -2, Sheet::some, (x, v) -> x.found(3, v, 1)));
        s.says("Promise 14", "BAD.", () -> s.bounds("cell", 0, 143, -2, Sheet::some, (x, v) -> x.found(3, 0, v)));
        s.says("Promise 15", "PROOF, as bits, by what was FOUND", this::proofBits);
        s.says("Promise 15", "(0: nothing was, too).", this::proofOfNothing);
    }

    private void aloneAndMet() {
        s.says("Promise 19", "ALONE (k -1 .. 19): the CELL (0), STEPS (1).", this::aloneUpToANight);
        s.says("Promise 19", "BAD.", () -> s.bounds("stone of two", 0, 1, -2, Sheet::some, (x, v) -> x.alone(v, 0, 0)));
        s.says("Promise 19", "BAD.", () -> s.bounds("k", -1, 19, -2, Sheet::some, (x, v) -> x.alone(0, v, 0)));
        s.says("Promise 19", "BAD.", () -> s.bounds("what", 0, 1, -2, Sheet::some, (x, v) -> x.alone(0, 0, v)));
        s.says("Promise 20", "MET, as bits.", this::metBits);
        s.says("Promise 20", "BAD.", () -> s.bounds("night", 0, 19, -2, Sheet::some, (x, v) -> x.met(v)));
    }

    // ---- lies, moved, work

    /** One cell to the right in each of the first three nights, and one in the last. */
    private static RolledStones fourSteps() {
        RolledStones x = Sheet.lights(60);
        for (int n : new int[] {0, 1, 2, 19}) {
            x.night(n, 1, 4, 1, n != 1);
        }
        return x;
    }

    private void behindEachNight() {
        RolledStones x = fourSteps();
        int[] cells = {60, 61, 62, 63, 63};
        for (int k = -1; k <= 3; k++) {
            int behind = k;
            s.asked(x, cells[k + 1], "behind " + k, y -> y.lies(0, behind));
        }
        s.asked(x, 63, "behind the last but one", y -> y.lies(0, 18));
        s.asked(x, 64, "behind the last", y -> y.lies(0, 19));
        s.asked(x, 60, "at first, asked again", y -> y.lies(0, -1));
    }

    private void cameHomeDidNotMove() {
        RolledStones x = Sheet.light(66, 1, 16);
        x.fence(67, 1);
        x.fence(79, 1);
        x.fence(78, 1);
        s.asked(x, 4, "four steps round", y -> y.work(0, 0));
        s.asked(x, 0, "it lies where it lay", y -> y.moved(0));
    }

    private void aheadOfThatNight() {
        RolledStones x = fourSteps();
        x.night(3, 3, 12, 1, false);
        s.asked(x, 60, "home again", y -> y.lies(0, 3));
        s.asked(x, 1, "and yet it moved in night 3", y -> y.moved(3));
        s.asked(x, 0, "none in night 4", y -> y.moved(4));
        s.asked(x, 1, "in the last one", y -> y.moved(19));
    }

    private void movedBits() {
        RolledStones x = Sheet.toAndFro();
        s.asked(x, 63, "all six, in the first night", y -> y.moved(0));
        s.asked(x, 63, "all six, in the last night", y -> y.moved(19));
        x.night(0, 3, 36, 1, false);
        s.asked(x, 0, "none from the rim", y -> y.moved(0));
        x.stake(61, true);
        x.stake(1, true);
        x.night(0, 1, 36, 1, false);
        s.asked(x, 30, "those without a stake", y -> y.moved(0));
        s.asked(new RolledStones(), 0, "no stones", y -> y.moved(19));
    }

    private void workIsSteps() {
        RolledStones x = Sheet.toAndFro();
        s.asked(x, 180, "nine in each of 20 nights", y -> y.work(0, 19));
        s.asked(x, 180, "of the last one, too", y -> y.work(5, 19));
        RolledStones met = Sheet.lights(60, 61);
        met.night(0, 1, 4, 1, false);
        s.asked(met, 0, "who handed its step on", y -> y.work(0, 0));
        s.asked(met, 2, "who went in its stead, and its own", y -> y.work(1, 0));
    }

    private void workUpToANight() {
        RolledStones x = fourSteps();
        int[] steps = {0, 1, 2, 3, 3};
        for (int k = -1; k <= 3; k++) {
            int behind = k;
            s.asked(x, steps[k + 1], "up to " + k, y -> y.work(0, behind));
        }
        s.asked(x, 4, "up to the last", y -> y.work(0, 19));
    }

    // ---- tracks, which

    private void tracksAsTheyWereMade() {
        RolledStones x = Sheet.lights(66, 67, 65);
        x.night(0, 1, 8, 1, true);
        x.night(19, 3, 36, 1, true);
        // The first one hands its steps on to the second one; the third one hands its steps on to the first one.
        s.asked(x, 2, "two of them", y -> y.tracks(67, 0, -1));
        s.asked(x, 11, "the second one's comes first", y -> y.tracks(67, 0, 0));
        s.asked(x, 1, "then the first one's", y -> y.tracks(67, 0, 1));
        // Night 19: the first one leaves 68 to the left, and goes as far as it can.
        s.asked(x, 3, "and one more in the last night", y -> y.tracks(67, 19, -1));
        s.asked(x, 1903, "of night 19, stone 0, to the left", y -> y.tracks(68, 19, 1));
        s.asked(x, 1913, "behind it the second one", y -> y.tracks(68, 19, 2));
    }

    private void tracksUpToANight() {
        RolledStones x = Sheet.toAndFro();
        s.asked(x, 0, "at first", y -> y.tracks(0, -1, -1));
        s.asked(x, 1, "the first night", y -> y.tracks(0, 0, -1));
        s.asked(x, 1, "two nights", y -> y.tracks(0, 1, -1));
        s.asked(x, 2, "three nights", y -> y.tracks(0, 2, -1));
        s.asked(x, 1, "the first", y -> y.tracks(0, 19, 0));
        s.asked(x, 201, "the second", y -> y.tracks(0, 19, 1));
        s.asked(new RolledStones(), 0, "without stones", y -> y.tracks(143, 19, -1));
    }

    private void notSoManyTracks() {
        RolledStones x = Sheet.toAndFro();
        s.asked(x, -5, "a third of two", y -> y.tracks(0, 19, 2));
        s.asked(x, -5, "a second of one", y -> y.tracks(0, 0, 1));
        s.asked(x, -5, "a first of none", y -> y.tracks(143, 19, 0));
        s.asked(x, -5, "a first at first", y -> y.tracks(0, -1, 0));
        s.asked(x, -5, "the 200th", y -> y.tracks(0, 19, 199));
        s.asked(x, -5, "the most", y -> y.tracks(0, 19, Sheet.BIG));
    }

    private void tracksBelowNone() {
        RolledStones x = Sheet.toAndFro();
        s.refused(x, Sheet.BAD, -10, "i -2", y -> y.tracks(0, 19, -2));
        s.refused(x, Sheet.BAD, -10, "the least i", y -> y.tracks(0, 19, Sheet.SMALL));
        s.refused(x, Sheet.BAD, -10, "BAD comes ahead of -5", y -> y.tracks(144, 19, 99));
    }

    private void whichNights() {
        RolledStones x = Sheet.toAndFro();
        for (int n = 0; n < 10; n++) {
            x.night(n, n % 2 == 0 ? 1 : 3, 36, 1, false);
        }
        s.asked(x, 0x55555, "to the right, wet or not", y -> y.which(0, 0, 1, 19));
        s.asked(x, 0xAAAAA, "to the left, wet or not", y -> y.which(5, 69, 3, 19));
        s.asked(x, 0, "by another way", y -> y.which(0, 0, 0, 19));
        s.asked(x, 0, "another stone", y -> y.which(1, 0, 1, 19));
        s.asked(x, 0, "from a cell it only comes to", y -> y.which(0, 9, 1, 19));
    }

    private void whichUpToANight() {
        RolledStones x = fourSteps();
        s.asked(x, 0, "at first", y -> y.which(0, 60, 1, -1));
        s.asked(x, 1, "night 0", y -> y.which(0, 60, 1, 0));
        s.asked(x, 0, "not yet", y -> y.which(0, 61, 1, 0));
        s.asked(x, 2, "night 1", y -> y.which(0, 61, 1, 1));
        s.asked(x, 0, "ahead of the last", y -> y.which(0, 63, 1, 18));
        s.asked(x, 1 << 19, "the last", y -> y.which(0, 63, 1, 19));
    }

    // ---- found, proof

    private void foundAnywhere() {
        RolledStones x = Sheet.toAndFro();
        x.stake(100, true);
        s.taken(x, 1, "behind the first night", y -> y.found(0, 0, 0));
        s.taken(x, 1, "behind the last night", y -> y.found(19, 5, 143));
        s.taken(x, 1, "where another one was found, too", y -> y.found(19, 4, 143));
        s.taken(x, 1, "where a stake stands", y -> y.found(19, 3, 100));
        s.due("three", x.count(3), 3);
    }

    private void foundForAnotherNight() {
        RolledStones x = Sheet.toAndFro();
        for (int stone = 0; stone < 6; stone++) {
            x.found(5, stone, 1);
        }
        s.due("six", x.count(3), 6);
        s.taken(x, 1, "for another night", y -> y.found(4, 2, 24));
        s.due("one alone", x.count(3), 1);
        s.due("of the others nothing is told", x.proof(), 4);
        s.taken(x, 1, "for the first one again", y -> y.found(5, 3, 1));
        s.due("what was told for it is not told any more", x.proof(), 8);
    }

    private void foundForTheSameNight() {
        RolledStones x = Sheet.toAndFro();
        s.taken(x, 1, "one", y -> y.found(19, 0, 1));
        s.taken(x, 1, "another", y -> y.found(19, 1, 1));
        s.due("both", x.count(3), 2);
        s.taken(x, 1, "the first elsewhere", y -> y.found(19, 0, 0));
        s.due("both still", x.count(3), 2);
        s.due("by the later word", x.proof(), 2);
    }

    private void refusedForAnotherNight() {
        RolledStones x = Sheet.some();
        s.refused(x, Sheet.BAD, -2, "a stone that is not there", y -> y.found(4, 2, 0));
        s.refused(x, Sheet.BAD, -2, "a cell that is not there", y -> y.found(4, 0, 144));
        s.due("what was told is told still", x.count(3), 1);
    }

    private void pushedOrNot() {
        RolledStones x = fourSteps();
        x.found(19, 0, 64);
        s.asked(x, 0, "nobody did", RolledStones::proof);
        x.found(19, 0, 63);
        s.asked(x, 1, "somebody did", RolledStones::proof);
        x.found(18, 0, 63);
        s.asked(x, 0, "nobody, by the night ahead", RolledStones::proof);
        x.night(0, 0, 0, 0, false);
        s.asked(x, 1, "by other weather", RolledStones::proof);
    }

    private void proofBits() {
        RolledStones x = Sheet.toAndFro();
        for (int stone = 0; stone < 6; stone++) {
            x.found(0, stone, 143);
        }
        s.asked(x, 63, "all six", RolledStones::proof);
        x.found(0, 0, 9);
        x.found(0, 5, 69);
        s.asked(x, 30, "but the first and the last", RolledStones::proof);
    }

    private void proofOfNothing() {
        s.asked(new RolledStones(), 0, "no stones", RolledStones::proof);
        s.asked(Sheet.toAndFro(), 0, "nothing was found", RolledStones::proof);
        RolledStones x = Sheet.toAndFro();
        x.found(0, 1, 143);
        s.asked(x, 2, "of those not found nothing is said", RolledStones::proof);
    }

    // ---- alone, met

    private void nobodyInTheWay() {
        RolledStones x = Sheet.light(60, 1, 36);
        x.stone(0, 61, 99);
        s.asked(x, 60, "with the other one", y -> y.lies(0, 0));
        s.asked(x, 69, "alone", y -> y.alone(0, 0, 0));
        s.asked(x, 9, "its steps", y -> y.alone(0, 0, 1));
        x.stone(0, 84, 1);
        x.stone(0, 85, 1);
        s.asked(x, 84, "handed on", y -> y.lies(2, 0));
        s.asked(x, 93, "alone", y -> y.alone(2, 0, 0));
        s.asked(x, 94, "the other one is not met", y -> y.alone(3, 0, 0));
        s.asked(x, 9, "so it goes its own steps", y -> y.alone(3, 0, 1));
        x.stake(66, true);
        s.asked(x, 65, "stakes stand", y -> y.alone(0, 0, 0));
        x.fence(63, 1);
        s.asked(x, 63 + 72, "fences steer", y -> y.alone(0, 0, 0));
    }

    private void aloneUpToANight() {
        RolledStones x = fourSteps();
        s.asked(x, 60, "at first", y -> y.alone(0, -1, 0));
        s.asked(x, 0, "no steps at first", y -> y.alone(0, -1, 1));
        s.asked(x, 61, "behind the first night", y -> y.alone(0, 0, 0));
        s.asked(x, 63, "behind the last but one", y -> y.alone(0, 18, 0));
        s.asked(x, 64, "behind the last", y -> y.alone(0, 19, 0));
        s.asked(x, 4, "steps up to the last", y -> y.alone(0, 19, 1));
    }

    private void metOfThatNightAlone() {
        RolledStones x = Sheet.lights(60, 61);
        x.night(1, 1, 4, 1, false);
        x.night(19, 3, 8, 1, false);
        // In night 1 the second one rolls from 61 to 62, and then to 63.
        s.asked(x, 0, "ahead of it", y -> y.met(0));
        s.asked(x, 2, "in night 1", y -> y.met(1));
        s.asked(x, 0, "behind it", y -> y.met(2));
        s.asked(x, 0, "in the last one: one comes just up to the other", y -> y.met(19));
    }

    private void metNobody() {
        RolledStones x = Sheet.lights(60);
        x.stone(0, 62, 2);
        x.night(0, 1, 7, 1, false);
        s.asked(x, 0, "one comes up to it, but has no step left", y -> y.met(0));
        x.stone(0, 84, 1);
        x.stone(0, 85, 2);
        s.asked(x, 0, "one that is too heavy does not roll", y -> y.met(0));
        s.asked(new RolledStones(), 0, "no stones", y -> y.met(0));
    }

    private void metBits() {
        RolledStones x = Sheet.lights(65, 64, 63, 62, 61, 60);
        x.night(0, 3, 4, 1, false);
        x.night(19, 3, 4, 1, false);
        s.asked(x, 62, "all but the first", y -> y.met(0));
        x.night(0, 1, 4, 1, false);
        s.asked(x, 0, "none, for each makes room", y -> y.met(0));
    }
}
