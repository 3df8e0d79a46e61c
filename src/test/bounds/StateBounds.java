/** What is kept and counted: IMAGES, THE FRACTION, STATUS and refusals, and promises 32 to 37. */
final class StateBounds {
    private static final String TERMS = "Terms";
    private final Sheet s;

    StateBounds(Sheet sheet) {
        s = sheet;
    }

    void all() {
        terms();
        refusals();
        partsAndImages();
        countsAndDigest();
    }

    private void terms() {
        s.says(TERMS, "IMAGES 0, 1 keep all but them,", this::imagesKeepAll);
        s.says(TERMS, "IMAGES 0, 1 keep all but them,", this::imageOfTheMost);
        s.says(TERMS, "IMAGES 0, 1 keep all but them,", this::imagesOfOtherStones);
        s.says(TERMS, "IMAGES 0, 1 keep all but them,", this::imagesAreNotInImages);
        s.says(TERMS, "THE FRACTION and STATUS;", this::fractionAndStatusGoOn);
        s.says(TERMS, "it goes on from one.", this::goesOnFromOne);
        s.says(TERMS, "STATUS: how many calls were refused as BAD, NO, FULL", this::countsEachReason);
        s.says(TERMS, "(each answer told so below is such a one).", this::answersThatAreNoRefusals);
        s.says(TERMS, "THE FRACTION is 0 by 1 at first;", this::fractionAtFirst);
        s.says(TERMS, "lowest terms, below above 0.", this::lowestTerms);
    }

    private void refusals() {
        s.says(TERMS, "Refused, changing nothing but STATUS,", this::refusalsChangeNothingKept);
        s.says(TERMS, "the first of:", this::firstReasonAlone);
        s.says(TERMS, "BAD -2 a number is not as told;", this::twoBadNumbersCountOnce);
        s.says(TERMS, "NO -3 as told;", this::answersOfNo);
        s.says(TERMS, "FULL -4", this::answersOfFull);
        s.says(TERMS, "(where others are told they count as these).", this::otherAnswersCount);
    }

    private void partsAndImages() {
        s.says("Promise 32", "THE FRACTION: above (0), below (1).", this::fractionAtFirst);
        s.says("Promise 32", "BAD: -2.", () -> s.bounds("what", 0, 1, -2, Sheet::some, (x, v) -> x.part(v)));
        s.says("Promise 33", "An IMAGE is kept: 1.", this::imageKeptAgain);
        s.says("Promise 33", "BAD.", () -> s.bounds("image", 0, 1, -2, Sheet::some, (x, v) -> x.image(v)));
        s.says("Promise 33", "BAD.", this::refusedImageKeepsNothing);
        s.says("Promise 34", "It goes on from an IMAGE: 1.", this::goesOnFromOne);
        s.says("Promise 34", "BAD;", () -> s.bounds("image", 0, 1, -2, StateBounds::twoImages, (x, v) -> x.from(v)));
        s.says("Promise 34", "NO: none was kept.", this::noneWasKept);
        s.says("Promise 35", "STATUS: BAD (0), NO (1), FULL (2).", this::countsEachReason);
        s.says("Promise 35", "-1: another what (counts as BAD).", this::statusOfAnother);
    }

    private void countsAndDigest() {
        s.says("Promise 36", "How many: 0 STONES,", this::countStones);
        s.says("Promise 36", "1 STAKES,", this::countStakes);
        s.says("Promise 36", "2 bytes of THE BOOK,", this::countBytes);
        s.says("Promise 36", "3 STONES that were FOUND.", this::countFound);
        s.says("Promise 36", "BAD.", () -> s.bounds("what", 0, 3, -2, Sheet::some, (x, v) -> x.count(v)));
        s.says("Promise 37", "h = 641; then h = 31 h + v for each v:", this::digestOfANewOne);
        s.says("Promise 37", "count(0) to count(3);", this::digestOfCounts);
        s.says("Promise 37", "of STONES SHAPE, CELL, WEIGHT;", this::digestOfStones);
        s.says("Promise 37", "of CELLS FENCE, STAKE (1, 0);", this::digestOfCells);
        s.says("Promise 37", "of NIGHTS WAY, FORCE, ICE, WET (1, 0);", this::digestOfNights);
        s.says("Promise 37", "bytes of THE BOOK;", this::digestOfBytes);
        s.says("Promise 37", "k of what was FOUND (NONE: nothing was), of STONES the CELL FOUND (NONE);", this::digestOfFound);
        s.says("Promise 37", "THE FRACTION.", this::digestOfTheFraction);
    }

    // ---- images

    private static RolledStones twoImages() {
        RolledStones x = Sheet.some();
        x.image(0);
        x.image(1);
        return x;
    }

    /** Another field altogether, with all that an image keeps. */
    private static void changeAll(RolledStones x) {
        x.stone(4, 9, 9);
        x.fence(62, 2);
        x.fence(143, 3);
        x.stake(65, false);
        x.stake(0, true);
        x.draw(12);
        x.clear();
        Sheet.text(x, "back 5 4 3;");
        x.found(9, 1, 9);
    }

    private void imagesKeepAll() {
        for (int image = 0; image < 2; image++) {
            int i = image;
            RolledStones x = Sheet.some();
            long kept = x.digest();
            s.asked(x, 1, "keep " + i, y -> y.image(i));
            changeAll(x);
            s.due("something changed", x.digest() == kept ? 1 : 0, 0);
            s.taken(x, 1, "from " + i, y -> y.from(i));
            s.due("all is as it was", x.digest(), kept);
            s.due("stones", x.count(0), 2);
            s.due("need of the second", x.need(1, 0), 1188);
            s.due("fence", x.fence(62, 1), 1);
            s.due("stakes", x.count(1), 1);
            s.due("force", x.weather(0, 1), 20);
            s.due("claims", x.claims(0), 1);
            s.due("found", x.count(3), 1);
            s.due("proof", x.proof(), 1);
        }
    }

    /** An image of the most is kept in an object that has held nothing, and then other things, since. */
    private void imageOfTheMost() {
        RolledStones x = Sheet.brimful();
        long most = x.digest();
        x.image(0);
        s.due("kept", x.digest(), most);
        x.clear();
        Sheet.text(x, "x".repeat(200));
        x.night(19, 0, 1, 1, false);
        x.stake(143, false);
        x.fence(143, 0);
        x.found(18, 0, 0);
        x.from(0);
        s.due("to the last cell, night and byte", x.digest(), most);
        s.due("the last byte is an item's end", x.fault(), -1);
        s.due("where the last stone was found", x.proof(), 32);
    }

    /** Stones of an image over those of another one, to the last of each. */
    private void imagesOfOtherStones() {
        RolledStones x = new RolledStones();
        x.image(0);
        for (int stone = 0; stone < 6; stone++) {
            x.stone(1, 12 * stone + 5, 94 + stone);
        }
        x.image(1);
        long six = x.digest();
        x.from(0);
        for (int stone = 0; stone < 6; stone++) {
            x.stone(4, 143 - stone, 1 + stone);
        }
        x.from(1);
        s.due("shapes, cells, weights", x.digest(), six);
        x.night(0, 3, 99, 8, false);
        // 792 is just the NEED of an egg of weight 99 to the left.
        s.due("need of the last one", x.need(5, 3), 792);
        s.due("it rolls by one step", x.lies(5, 0), 64);
        s.due("the first one rolls by its weight of 94", x.work(0, 0), 1);
    }

    private void imagesAreNotInImages() {
        RolledStones x = Sheet.lights(1);
        x.image(0);
        x.stone(0, 2, 1);
        x.image(1);
        x.from(0);
        s.due("one stone", x.count(0), 1);
        s.taken(x, 1, "the other image was kept later, and is there", y -> y.from(1));
        s.due("two stones", x.count(0), 2);
        x.image(0);
        x.stone(0, 3, 1);
        x.from(0);
        s.due("an image is the last one kept there", x.count(0), 2);
    }

    private void fractionAndStatusGoOn() {
        RolledStones x = Sheet.some();
        x.image(0);
        x.spring(0, 0, 0, 0, 60);
        x.stone(9, 9, 9);
        x.stake(65, true);
        s.taken(x, 1, "from", y -> y.from(0));
        s.due("the later fraction", x.part(1), 1);
        s.due("BAD", x.status(0), 1);
        s.due("NO", x.status(1), 1);
        RolledStones full = Sheet.toAndFro();
        full.image(1);
        full.stone(0, 100, 1);
        full.from(1);
        s.due("FULL", full.status(2), 1);
    }

    private void goesOnFromOne() {
        RolledStones x = Sheet.some();
        x.image(1);
        long kept = x.digest();
        s.taken(x, 1, "from what it is", y -> y.from(1));
        s.due("nothing changed", x.digest(), kept);
        changeAll(x);
        x.from(1);
        changeAll(x);
        s.due("changes do not reach the image", x.from(1), 1);
        s.due("as it was kept", x.digest(), kept);
        s.taken(x, 2, "it goes on: a third stone", y -> y.stone(0, 9, 9));
        s.taken(x, 1, "and its lies", y -> y.lies(2, -1) == 9 ? 1 : 0);
        RolledStones six = new RolledStones();
        six.image(0);
        for (int cell = 0; cell < 6; cell++) {
            six.stone(1, cell, 2);
        }
        six.image(1);
        six.from(0);
        s.refused(six, Sheet.BAD, -2, "no stones any more", y -> y.need(0, 0));
        six.stone(0, 100, 1);
        s.due("a new first one", six.need(0, 1), 4);
        six.from(1);
        s.due("needs of six", six.need(0, 1) + six.need(5, 1), 32);
        s.refused(six, Sheet.FULL, -4, "it is full again", y -> y.stone(0, 100, 1));
    }

    private void imageKeptAgain() {
        RolledStones x = new RolledStones();
        s.asked(x, 1, "a new object's", y -> y.image(0));
        s.asked(x, 1, "again", y -> y.image(0));
        x.stone(0, 0, 1);
        s.asked(x, 1, "over the first", y -> y.image(0));
        x.stone(0, 1, 1);
        x.from(0);
        s.due("one stone", x.count(0), 1);
    }

    private void refusedImageKeepsNothing() {
        RolledStones x = new RolledStones();
        s.refused(x, Sheet.BAD, -2, "a third image", y -> y.image(2));
        s.refused(x, Sheet.NO, -3, "the first was not kept", y -> y.from(0));
        s.refused(x, Sheet.NO, -3, "nor the second", y -> y.from(1));
    }

    private void noneWasKept() {
        RolledStones x = Sheet.some();
        s.refused(x, Sheet.NO, -3, "neither", y -> y.from(0));
        x.image(0);
        s.refused(x, Sheet.NO, -3, "only the other", y -> y.from(1));
        s.taken(x, 1, "the one kept", y -> y.from(0));
        s.refused(x, Sheet.BAD, -2, "a third", y -> y.from(2));
    }

    // ---- status, fraction, refusals

    private void countsEachReason() {
        RolledStones x = Sheet.toAndFro();
        for (int i = 1; i <= 3; i++) {
            x.fence(-1, 0);
            x.draw(-1);
            s.due("BAD", x.status(0), 2 * i);
            x.from(0);
            s.due("NO", x.status(1), i);
            x.stone(0, 100, 1);
            s.due("FULL", x.status(2), i);
        }
    }

    private void answersThatAreNoRefusals() {
        RolledStones x = Sheet.some();
        s.asked(x, -5, "not so many", y -> y.tracks(0, 0, 0));
        s.asked(x, -6, "it lies there anyhow", y -> y.hold(1, 0));
        s.asked(x, -1, "no fence steers it", y -> y.steer(0, 59, 0));
        s.asked(x, -1, "no fault", RolledStones::fault);
        x.found(0, 1, 0);
        s.asked(x, -1, "no weather", y -> y.guess(0, 1));
        s.asked(x, -1, "no seed", y -> y.seeds(0, 9));
        RolledStones corner = Sheet.light(66, 1, 4);
        corner.night(1, 2, 4, 1, false);
        s.asked(corner, -1, "no stake holds it", y -> y.hold(0, 1));
        corner.found(1, 0, 79);
        s.asked(corner, 0, "nobody pushed", RolledStones::proof);
        Sheet.text(corner, "back 0 1 2;");
        s.asked(corner, -2, "two less than nothing is owed: not BAD", y -> y.owed(0, 1));
        Sheet.text(corner, "back 0 1 1;");
        s.asked(corner, -3, "three less: not NO", y -> y.owed(0, 1));
    }

    private void fractionAtFirst() {
        RolledStones x = new RolledStones();
        s.asked(x, 0, "above", y -> y.part(0));
        s.asked(x, 1, "below", y -> y.part(1));
    }

    private void lowestTerms() {
        RolledStones x = Sheet.lights(0);
        for (int n = 0; n <= 8; n++) {
            for (int cell = 0; cell < 12; cell++) {
                x.spring(0, n, 4, 1, cell);
                long above = x.part(0), below = x.part(1);
                long common = java.math.BigInteger.valueOf(above).gcd(java.math.BigInteger.valueOf(below)).longValue();
                s.due("common part", common, 1);
                s.due("below above 0", below > 0 ? 1 : 0, 1);
            }
        }
        x.spring(0, 8, 4, 1, 143);
        s.due("nothing by one", x.part(0) * 10 + x.part(1), 1);
        x.spring(0, 8, 0, 0, 0);
        s.due("one by one", x.part(0) * 10 + x.part(1), 11);
    }

    private void refusalsChangeNothingKept() {
        RolledStones x = twoImages();
        long digest = x.digest();
        changeAll(x);
        long later = x.digest();
        x.image(2);
        x.image(-1);
        x.from(2);
        x.stone(0, 9, 1);
        x.fence(144, 0);
        x.stake(0, true);
        x.night(0, 0, 0, 10, false);
        x.draw(1000000);
        x.found(3, 9, 0);
        x.spring(0, 9, 0, 0, 0);
        x.type(0, 9);
        s.due("refused as BAD", x.status(0), 10);
        s.due("refused as NO", x.status(1), 1);
        s.due("nothing changed", x.digest(), later);
        x.from(0);
        s.due("nor the first image", x.digest(), digest);
        x.from(1);
        s.due("nor the second image", x.digest(), digest);
    }

    private void firstReasonAlone() {
        RolledStones x = Sheet.toAndFro();
        s.refused(x, Sheet.BAD, -2, "BAD ahead of FULL", y -> y.stone(5, 100, 1));
        s.refused(x, Sheet.BAD, -2, "BAD ahead of NO: a stake", y -> y.stake(0, false));
        s.refused(x, Sheet.BAD, -10, "BAD ahead of NO: guess", y -> y.guess(20, 0));
        s.refused(x, Sheet.BAD, -2, "BAD ahead of NO: guessWay", y -> y.guessWay(0, 4));
        s.refused(x, Sheet.BAD, -10, "BAD ahead of NO: seeds", y -> y.seeds(0, 100));
        s.refused(x, Sheet.BAD, -2, "BAD ahead of NO: from", y -> y.from(2));
        Sheet.text(x, "x".repeat(200));
        s.refused(x, Sheet.BAD, -2, "BAD ahead of FULL: type", y -> y.type(0, 9));
        s.refused(x, Sheet.BAD, -2, "BAD ahead of NO: claims", y -> y.claims(3));
        s.refused(x, Sheet.BAD, -1000000, "BAD ahead of NO: owed", y -> y.owed(6, 0));
        s.refused(x, Sheet.BAD, -1000000, "BAD ahead of NO: net", y -> y.net(6));
    }

    private void twoBadNumbersCountOnce() {
        RolledStones x = Sheet.some();
        int big = Sheet.BIG, small = Sheet.SMALL;
        s.refused(x, Sheet.BAD, -2, "stone", y -> y.stone(big, small, big));
        s.refused(x, Sheet.BAD, -2, "fence", y -> y.fence(small, big));
        s.refused(x, Sheet.BAD, -2, "night", y -> y.night(big, big, small, small, true));
        s.refused(x, Sheet.BAD, -2, "weather", y -> y.weather(big, small));
        s.refused(x, Sheet.BAD, -2, "need", y -> y.need(small, big));
        s.refused(x, Sheet.BAD, -2, "lies", y -> y.lies(big, big));
        s.refused(x, Sheet.BAD, -2, "work", y -> y.work(big, small));
        s.refused(x, Sheet.BAD, -10, "tracks", y -> y.tracks(big, big, small));
        s.refused(x, Sheet.BAD, -2, "which", y -> y.which(big, big, small, big));
        s.refused(x, Sheet.BAD, -2, "found", y -> y.found(big, small, big));
        s.refused(x, Sheet.BAD, -10, "hold", y -> y.hold(big, big));
        s.refused(x, Sheet.BAD, -2, "spring", y -> y.spring(big, big, small, big, small));
        s.refused(x, Sheet.BAD, -2, "alone", y -> y.alone(big, small, big));
        s.refused(x, Sheet.BAD, -10, "steer", y -> y.steer(small, small, small));
        s.refused(x, Sheet.BAD, -10, "guess", y -> y.guess(big, big));
        s.refused(x, Sheet.BAD, -2, "guessWay", y -> y.guessWay(small, small));
        s.refused(x, Sheet.BAD, -10, "seeds", y -> y.seeds(big, big));
        s.refused(x, Sheet.BAD, -1000000, "owed", y -> y.owed(big, big));
    }

    private void answersOfNo() {
        s.due("NO", RolledStones.NO, -3);
        RolledStones x = Sheet.lights(5);
        s.refused(x, Sheet.NO, -3, "stake", y -> y.stake(0, false));
        s.refused(x, Sheet.NO, -3, "guessWay", y -> y.guessWay(0, 0));
        s.refused(x, Sheet.NO, -3, "from", y -> y.from(0));
        x.type('x', 1);
        s.refused(x, Sheet.NO, -3, "claims", y -> y.claims(0));
        s.refused(x, Sheet.NO, -3, "fewest", RolledStones::fewest);
    }

    private void answersOfFull() {
        s.due("FULL", RolledStones.FULL, -4);
        s.due("BAD", RolledStones.BAD, -2);
        s.due("NONE", RolledStones.NONE, -1);
        RolledStones x = Sheet.toAndFro();
        s.refused(x, Sheet.FULL, -4, "stone", y -> y.stone(0, 100, 1));
        Sheet.text(x, " ".repeat(200));
        s.refused(x, Sheet.FULL, -4, "type", y -> y.type(0, 1));
    }

    private void otherAnswersCount() {
        RolledStones x = Sheet.lights(5);
        s.refused(x, Sheet.BAD, -10, "tracks", y -> y.tracks(144, 0, 0));
        s.refused(x, Sheet.BAD, -10, "hold", y -> y.hold(1, 0));
        s.refused(x, Sheet.BAD, -10, "steer", y -> y.steer(1, 0, 0));
        s.refused(x, Sheet.BAD, -10, "guess", y -> y.guess(0, 2));
        s.refused(x, Sheet.NO, -20, "guess", y -> y.guess(0, 0));
        s.refused(x, Sheet.BAD, -10, "seeds", y -> y.seeds(-1, 0));
        s.refused(x, Sheet.NO, -20, "seeds", y -> y.seeds(0, 0));
        s.refused(x, Sheet.BAD, -1000000, "owed", y -> y.owed(0, 0));
        s.refused(x, Sheet.BAD, -1000000, "net", y -> y.net(-1));
        x.type('x', 1);
        s.refused(x, Sheet.NO, -2000000, "owed", y -> y.owed(0, 1));
        s.refused(x, Sheet.NO, -2000000, "net", y -> y.net(0));
        s.refused(x, Sheet.BAD, -1, "status", y -> y.status(3));
    }

    private void statusOfAnother() {
        RolledStones x = new RolledStones();
        for (int what : new int[] {-1, 3, Sheet.SMALL, Sheet.BIG}) {
            s.refused(x, Sheet.BAD, -1, "status of " + what, y -> y.status(what));
        }
        s.due("four of them", x.status(0), 4);
    }

    // ---- counts

    private void countStones() {
        RolledStones x = new RolledStones();
        for (int stone = 0; stone < 6; stone++) {
            s.asked(x, stone, "stones", y -> y.count(0));
            x.stone(0, stone, 1);
            x.stone(0, stone, 1);
        }
        s.asked(x, 6, "six", y -> y.count(0));
        x.stone(0, 100, 1);
        s.asked(x, 6, "six still", y -> y.count(0));
    }

    private void countStakes() {
        RolledStones x = Sheet.lights(7);
        x.stake(0, true);
        x.stake(143, true);
        s.asked(x, 2, "two", y -> y.count(1));
        x.stake(143, true);
        x.stake(7, true);
        s.asked(x, 2, "refused ones do not count", y -> y.count(1));
        x.stake(0, false);
        x.stake(1, false);
        s.asked(x, 1, "one was taken away", y -> y.count(1));
    }

    private void countBytes() {
        RolledStones x = new RolledStones();
        x.type(-1L, 8);
        x.type(0, 1);
        s.asked(x, 9, "nine", y -> y.count(2));
        x.type(0, 9);
        s.asked(x, 9, "nine still", y -> y.count(2));
        x.clear();
        s.asked(x, 0, "none", y -> y.count(2));
    }

    private void countFound() {
        RolledStones x = Sheet.toAndFro();
        s.asked(x, 0, "none", y -> y.count(3));
        for (int stone = 0; stone < 6; stone++) {
            x.found(2, stone, 0);
            x.found(2, stone, 143);
        }
        s.asked(x, 6, "all, each once", y -> y.count(3));
        x.found(3, 0, 0);
        s.asked(x, 1, "for another night", y -> y.count(3));
    }

    // ---- digests

    private static long digestOf(long... row) {
        long h = 641;
        for (long v : row) {
            h = 31 * h + v;
        }
        return h;
    }

    /** Of an object with nothing but a book. */
    static long digestOfBook(long... bytes) {
        long[] row = new long[4 + 288 + 80 + bytes.length + 1 + 2];
        row[2] = bytes.length;
        System.arraycopy(bytes, 0, row, 372, bytes.length);
        row[372 + bytes.length] = -1;
        row[374 + bytes.length] = 1;
        return digestOf(row);
    }

    private void digestOfANewOne() {
        s.asked(new RolledStones(), digestOfBook(), "a new object", RolledStones::digest);
        RolledStones x = new RolledStones();
        s.due("asked twice", x.digest(), x.digest());
    }

    /** The row of a new object with one stone: counts, the stone at 4 .. 6, cells from 7, nights from 295, k at 375. */
    private static long[] rowOfOne() {
        long[] row = new long[4 + 3 + 288 + 80 + 1 + 1 + 2];
        row[0] = 1;
        row[5] = 143;
        row[6] = 1;
        row[375] = -1;
        row[376] = -1;
        row[378] = 1;
        return row;
    }

    private void digestOfCounts() {
        RolledStones x = Sheet.lights(143);
        long[] row = rowOfOne();
        s.due("one stone", x.digest(), digestOf(row));
        x.stake(0, true);
        row[1] = 1;
        row[8] = 1;
        s.due("and a stake", x.digest(), digestOf(row));
        x.found(19, 0, 0);
        row[3] = 1;
        row[375] = 19;
        row[376] = 0;
        s.due("and one found", x.digest(), digestOf(row));
        RolledStones book = new RolledStones();
        book.type(7, 1);
        s.due("a byte", book.digest(), digestOfBook(7));
    }

    private void digestOfStones() {
        RolledStones x = new RolledStones();
        x.stone(4, 143, 99);
        long[] row = rowOfOne();
        row[4] = 4;
        row[6] = 99;
        s.due("the greatest of all", x.digest(), digestOf(row));
        x.night(0, 3, 99, 9, false);
        row[295] = 3;
        row[296] = 99;
        row[297] = 9;
        s.due("its first cell, wherever it lies later", x.digest(), digestOf(row));
    }

    private void digestOfCells() {
        RolledStones x = Sheet.lights(143);
        long[] row = rowOfOne();
        x.fence(0, 1);
        x.fence(143, 3);
        x.stake(142, true);
        row[1] = 1;
        row[7] = 1;
        row[7 + 286] = 3;
        row[7 + 285] = 1;
        s.due("of the first and the last", x.digest(), digestOf(row));
    }

    private void digestOfNights() {
        RolledStones x = Sheet.lights(143);
        long[] row = rowOfOne();
        x.night(0, 1, 2, 3, true);
        x.night(19, 3, 99, 9, true);
        long[] nights = {1, 2, 3, 1};
        System.arraycopy(nights, 0, row, 295, 4);
        nights = new long[] {3, 99, 9, 1};
        System.arraycopy(nights, 0, row, 295 + 76, 4);
        s.due("of the first and the last", x.digest(), digestOf(row));
        x.night(19, 3, 99, 9, false);
        row[295 + 79] = 0;
        s.due("a dry one", x.digest(), digestOf(row));
    }

    private void digestOfBytes() {
        RolledStones x = new RolledStones();
        x.type(0, 1);
        s.due("a byte of nothing", x.digest(), digestOfBook(0));
        x.type(127, 1);
        x.type(128, 1);
        x.type(255, 1);
        s.due("bytes are 0 to 255", x.digest(), digestOfBook(0, 127, 128, 255));
    }

    private void digestOfFound() {
        RolledStones x = Sheet.lights(143);
        long[] row = rowOfOne();
        s.due("nothing was", x.digest(), digestOf(row));
        x.found(0, 0, 143);
        row[3] = 1;
        row[375] = 0;
        row[376] = 143;
        s.due("behind night 0", x.digest(), digestOf(row));
        RolledStones six = Sheet.toAndFro();
        six.found(1, 5, 7);
        long before = six.digest();
        six.found(2, 5, 7);
        s.due("another night", six.digest() == before ? 1 : 0, 0);
        six.found(1, 5, 7);
        s.due("the first again", six.digest(), before);
    }

    private void digestOfTheFraction() {
        RolledStones x = Sheet.lights(143);
        x.spring(0, 2, 4, 1, 143);
        long[] row = rowOfOne();
        row[377] = 3;
        row[378] = 8;
        s.due("above, below", x.digest(), digestOf(row));
    }
}
