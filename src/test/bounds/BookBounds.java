import java.util.function.ToLongFunction;

/** THE BOOK: the Terms' third part, and promises 25 to 31. */
final class BookBounds {
    private static final String TERMS = "Terms";
    private final Sheet s;

    BookBounds(Sheet sheet) {
        s = sheet;
    }

    void all() {
        items();
        tokens();
        faults();
        claims();
        money();
        typing();
        answers();
    }

    private void items() {
        s.says(TERMS, "3 THE BOOK is a TEXT (200 bytes at most)", this::twoHundredBytes);
        s.says(TERMS, "of ITEMS, each ended by ; :", this::itemsAreEnded);
        s.says(TERMS, "claim F G N S M (FARMER F, 0 .. 5,", () -> numbersOf("claim ", " 1 2 0 3;", 5, 1));
        s.says(TERMS, "says that G, 0 .. 5,", () -> numbersOf("claim 1 ", " 2 0 3;", 5, 1));
        s.says(TERMS, "unlike F,", this::claimAgainstOneself);
        s.says(TERMS, "rolled STONE S", () -> numbersOf("claim 1 2 3 ", " 4;", 1, -1));
        s.says(TERMS, "in NIGHT N, 0 .. 19;", () -> numbersOf("claim 1 2 ", " 0 4;", 19, -1));
        s.says(TERMS, "G paid M, 0 .. 99, to F);", () -> numbersOf("claim 1 2 3 0 ", ";", 99, -1));
        s.says(TERMS, "back F G M (F gave M back to G,", () -> numbersOf("back ", " 1 3;", 5, 1));
        s.says(TERMS, "back F G M (F gave M back to G,", () -> numbersOf("back 1 ", " 3;", 5, 1));
        s.says(TERMS, "back F G M (F gave M back to G,", () -> numbersOf("back 1 2 ", ";", 99, -1));
        s.says(TERMS, "F unlike G).", this::backToOneself);
    }

    private void tokens() {
        s.says(TERMS, "TOKENS: words of letters a .. z,", this::lettersOfWords);
        s.says(TERMS, "figures (1 or 2 are one number),", this::oneOrTwoFigures);
        s.says(TERMS, "; ;", this::theEndOfAnItem);
        s.says(TERMS, "blanks (32) between.", this::blanksBetween);
    }

    private void faults() {
        s.says(TERMS, "FAULT: the place of the first byte of the first TOKEN that can not stand there", this::firstOfTwoFaults);
        s.says(TERMS, "FAULT: the place of the first byte of the first TOKEN that can not stand there", this::tokensOutOfPlace);
        s.says(TERMS, "(a word that is none,", this::wordsThatAreNone);
        s.says(TERMS, "a third figure's number,", this::threeFigures);
        s.says(TERMS, "a number not as told", this::numbersNotAsTold);
        s.says(TERMS, "(a STONE that is not there, too),", this::stoneThatIsNotThere);
        s.says(TERMS, "a byte that begins none, too);", this::bytesThatBeginNone);
        s.says(TERMS, "the TEXT's length, if it ends too early", this::endsTooEarly);
        s.says(TERMS, "(an empty one: none).", this::emptyTexts);
        s.says(TERMS, "(NO to all that goes by THE BOOK: a FAULT.)", this::noToAllByAFault);
    }

    private void claims() {
        s.says(TERMS, "A claim is UNSURE, if its STONE was FOUND", this::ofAStoneNotFound);
        s.says(TERMS, "behind a NIGHT k no earlier than that of the claim,", this::noEarlierThanTheClaim);
        s.says(TERMS, "does not lie there by PROOF,", this::unsureByProof);
        s.says(TERMS, "and did not move in that NIGHT;", this::didNotMoveThatNight);
        s.says(TERMS, "else WRONG.", this::wrongOrUnsure);
    }

    private void money() {
        s.says(TERMS, "OWED by a FARMER to another one: M of all claims of the one against the other that are WRONG,", this::owedForWrongOnes);
        s.says(TERMS, "less what was given back;", this::moreGivenBackThanOwed);
        s.says(TERMS, "NET: what a FARMER has to get from all, less what he owes to all.", this::netsAreEvenInAll);
        s.says(TERMS, "FEWEST: to make all even with the fewest payments between FARMERS: how many.", this::fewestPayments);
    }

    private void typing() {
        s.says("Promise 25", "The lowest n (1 .. 8) bytes of v, the highest of them first, come to THE BOOK: how many it has.", this::lowestBytes);
        s.says("Promise 25", "The lowest n (1 .. 8) bytes of v, the highest of them first, come to THE BOOK: how many it has.", this::bytesOverTheSign);
        s.says("Promise 25", "BAD;", () -> s.bounds("n", 1, 8, -2, Sheet::some, (x, v) -> x.type(-1L, v)));
        s.says("Promise 25", "FULL.", this::fullBook);
        s.says("Promise 26", "THE BOOK is empty: how many it had.", this::cleared);
        s.says("Promise 27", "FAULT.", this::endsTooEarly);
        s.says("Promise 27", "NONE.", this::faultIsNeverRefused);
    }

    private void answers() {
        s.says("Promise 28", "How many claims (0), WRONG ones (1), UNSURE ones (2).", this::howManyClaims);
        s.says("Promise 28", "BAD;", () -> s.bounds("what", 0, 2, -2, Sheet::some, (x, v) -> x.claims(v)));
        s.says("Promise 28", "NO.", () -> faultRefuses(-3, -2, x -> x.claims(2), x -> x.claims(3)));
        s.says("Promise 29", "OWED by one to another.", this::owedByEachToEach);
        s.says("Promise 29", "BAD: -1000000;", () -> s.bounds("by", 0, 5, -1000000, Sheet::some, (x, v) -> x.owed(v, 3)));
        s.says("Promise 29", "BAD: -1000000;", () -> s.bounds("to", 0, 5, -1000000, Sheet::some, (x, v) -> x.owed(3, v)));
        s.says("Promise 29", "BAD: -1000000;", this::owedToOneself);
        s.says("Promise 29", "NO: -2000000.", () -> faultRefuses(-2000000, -1000000, x -> x.owed(0, 1), x -> x.owed(1, 1)));
        s.says("Promise 30", "NET.", this::netsAtTheEdges);
        s.says("Promise 30", "BAD: -1000000;", () -> s.bounds("farmer", 0, 5, -1000000, Sheet::some, (x, v) -> x.net(v)));
        s.says("Promise 30", "NO: -2000000.", () -> faultRefuses(-2000000, -1000000, x -> x.net(5), x -> x.net(6)));
        s.says("Promise 31", "FEWEST.", this::fewestOfNothing);
        s.says("Promise 31", "NO.", this::fewestByAFault);
    }

    // ---- texts

    /** Stones 0, which moves in night 0 alone, and 1, which never does. */
    private static RolledStones two() {
        RolledStones x = Sheet.lights(60);
        x.stone(0, 30, 99);
        x.night(0, 1, 4, 1, false);
        return x;
    }

    private static RolledStones with(String text) {
        RolledStones x = two();
        Sheet.text(x, text);
        return x;
    }

    private void fault(String text, int place) {
        s.asked(with(text), place, "fault of '" + text + "'", RolledStones::fault);
    }

    /** A number between two pieces of text: as told from 0 to high; of farmers 1 is left out, who stands beside it. */
    private void numbersOf(String ahead, String behind, int high, int leftOut) {
        for (int v = 0; v <= 99; v++) {
            if (v != leftOut) {
                String text = ahead + v + behind;
                s.due("fault of '" + text + "'", with(text).fault(), v <= high ? -1 : ahead.length());
            }
        }
        fault(ahead + "100" + behind, ahead.length());
        fault(ahead + "-1" + behind, ahead.length());
    }

    private void twoHundredBytes() {
        RolledStones x = two();
        for (int i = 1; i <= 25; i++) {
            s.due("eight more", x.type(0x2020202020202020L, 8), 8 * i);
        }
        s.due("all of them", x.count(2), 200);
        s.refused(x, Sheet.FULL, -4, "one more", y -> y.type(32, 1));
        s.asked(x, -1, "blanks alone", RolledStones::fault);
        x.clear();
        Sheet.text(x, "claim0 1 2 0 3;".repeat(13) + " back");
        s.due("a full one", x.count(2), 200);
        s.asked(x, 200, "its last item ends too early", RolledStones::fault);
        x.clear();
        Sheet.text(x, "back0 1 2;".repeat(20));
        s.asked(x, -1, "twenty items to the last byte", RolledStones::fault);
        s.asked(x, -40, "all of them count", y -> y.owed(0, 1));
    }

    private void itemsAreEnded() {
        fault("back 0 1 2", 10);
        fault("back 0 1 2;", -1);
        fault("back 0 1 2 back 0 1 2;", 11);
        fault("back 0 1 2;back 0 1 2", 21);
        fault("back 0 1 2;back 0 1 2;claim 0 1 2 0 3;", -1);
    }

    private void claimAgainstOneself() {
        for (int farmer = 0; farmer < 6; farmer++) {
            fault("claim " + farmer + " " + farmer + " 2 0 3;", 8);
        }
        fault("claim 3 03 2 0 3;", 8);
        fault("claim 3 3", 8);
    }

    private void backToOneself() {
        for (int farmer = 0; farmer < 6; farmer++) {
            fault("back " + farmer + " " + farmer + " 3;", 7);
        }
        fault("back 05 5 3;", 8);
        fault("back 5 5", 7);
    }

    private void lettersOfWords() {
        fault("claim 0 1 2 0 3;", -1);
        fault("back 0 1 2;", -1);
        fault("Claim 0 1 2 0 3;", 0);
        fault("{ack 0 1 2;", 0);
        fault("`ack 0 1 2;", 0);
        fault("bac{ 0 1 2;", 0);
        fault("back{0 1 2;", 4);
        fault("back`0 1 2;", 4);
        fault("backa 0 1 2;", 0);
        fault("backz 0 1 2;", 0);
        fault("BACK 0 1 2;", 0);
    }

    private void oneOrTwoFigures() {
        fault("back 0 1 9;", -1);
        fault("back 0 1 99;", -1);
        fault("back 00 01 09;", -1);
        fault("back 0 1 100;", 9);
        fault("back 01 2;", 9);
        fault("back 0 1 2/;", 10);
        fault("back 0 1 2:;", 10);
        RolledStones x = with("back 00 01 09;");
        s.asked(x, -9, "by their worth", y -> y.owed(0, 1));
        x = with("back 0 1 90;");
        s.asked(x, -90, "two figures", y -> y.owed(0, 1));
    }

    private void theEndOfAnItem() {
        fault(";", 0);
        fault("back 0 1 2;;", 11);
        fault("back 0 1;", 8);
        fault("back;", 4);
        fault("back 0 1 2:", 10);
        fault("back 0 1 2<", 10);
    }

    private void blanksBetween() {
        fault("  back   0  1  2  ;  ", -1);
        fault("back0 1 2;back0 1 2;", -1);
        fault(" back 0 1 2; ", -1);
        fault("ba ck 0 1 2;", 0);
        fault("back 0 1 1 2;", 11);
        fault("back\t0 1 2;", 4);
        fault("back\n0 1 2;", 4);
        fault("back!0 1 2;", 4);
        fault("back" + (char) 31 + "0 1 2;", 4);
        fault("back" + (char) 160 + "0 1 2;", 4);
    }

    // ---- faults

    private void firstOfTwoFaults() {
        fault("claim 6 1 20 2 100;", 6);
        fault("claim 0 0 20 2 100;", 8);
        fault("claim 0 1 20 2 100;", 10);
        fault("claim 0 1 19 2 100;", 13);
        fault("claim 0 1 19 1 100;", 15);
        fault("back 0 1 2; x ; y", 12);
    }

    private void tokensOutOfPlace() {
        fault("0 back 1 2;", 0);
        fault("back back 1 2;", 5);
        fault("back 0 claim 2;", 7);
        fault("back 0 1 2 3;", 11);
        fault("claim 0 1 2 0;", 13);
        fault("claim 0 1 2 0 3 4;", 16);
        fault("claim 0 ; 1 2 0 3;", 8);
        fault("claim claim 0 1 2 0 3;", 6);
    }

    private void wordsThatAreNone() {
        for (String word : new String[] {"c", "clai", "claims", "klaim", "claix", "b", "bac", "bask", "a", "z", "clearme"}) {
            fault(word + " 0 1 2 0 3;", 0);
            fault("back 0 1 2;  " + word, 13);
        }
        fault("back 0 x 2;", 7);
        fault("claimback 0 1 2;", 0);
        fault("a".repeat(200), 0);
    }

    private void threeFigures() {
        fault("back 000 1 2;", 5);
        fault("back 0 001 2;", 7);
        fault("back 0 1 002;", 9);
        fault("back 0 1 100", 9);
        fault("back 0 1 4294967298;", 9);
        fault("claim 0 1 2 0 18446744073709551616;", 14);
        fault("1".repeat(200), 0);
        fault("back 0 1 " + "0".repeat(191), 9);
    }

    private void numbersNotAsTold() {
        fault("claim 6 1 2 0 3;", 6);
        fault("claim 0 6 2 0 3;", 8);
        fault("claim 0 1 20 0 3;", 10);
        fault("claim 0 1 99 0 3;", 10);
        fault("back 6 1 2;", 5);
        fault("back 1 6 2;", 7);
        fault("back 6", 5);
        fault("back 1 99", 7);
    }

    private void stoneThatIsNotThere() {
        fault("claim 0 1 2 2 3;", 12);
        RolledStones x = new RolledStones();
        Sheet.text(x, "claim 0 1 2 0 3;");
        s.asked(x, 12, "no stone at all", RolledStones::fault);
        x.image(0);
        x.stone(0, 0, 1);
        s.asked(x, -1, "now there is one", RolledStones::fault);
        x.from(0);
        s.asked(x, 12, "and now not any more", RolledStones::fault);
        RolledStones six = Sheet.toAndFro();
        Sheet.text(six, "claim 0 1 2 5 3;");
        s.asked(six, -1, "the sixth", RolledStones::fault);
        Sheet.text(six, "claim 0 1 2 6 3;");
        s.asked(six, 28, "a seventh", RolledStones::fault);
    }

    /** Every byte but those of blanks, figures, letters and ; at every place of an item that it may break. */
    private void bytesThatBeginNone() {
        for (int b = 0; b < 256; b++) {
            boolean begins = b == 32 || b == ';' || b >= '0' && b <= '9' || b >= 'a' && b <= 'z';
            if (!begins) {
                RolledStones x = with("back 0 " + (char) b);
                s.due("byte " + b + " in place of a number", x.fault(), 7);
                x.clear();
                x.type(b, 1);
                s.due("byte " + b + " alone", x.fault(), 0);
                x.clear();
                Sheet.text(x, "back 0 1 2;" + (char) b);
                s.due("byte " + b + " behind an item", x.fault(), 11);
            }
        }
    }

    private void endsTooEarly() {
        String item = "claim 0 1 19 1 99";
        int[] ends = {5, 6, 7, 8, 9, 10, 11, 12, 13, 14, 15, 16, 17};
        for (int end : ends) {
            fault(item.substring(0, end), end);
        }
        fault(item + "   ", 20);
        fault("back 0 1 2; back", 16);
        fault("back 0 1 2; back ", 17);
        fault(item + ";", -1);
    }

    private void emptyTexts() {
        fault("", -1);
        fault(" ", -1);
        fault("        ", -1);
        RolledStones x = with("back");
        x.clear();
        s.asked(x, -1, "cleared", RolledStones::fault);
        s.asked(x, 0, "claims of it", y -> y.claims(0));
    }

    private void noToAllByAFault() {
        RolledStones x = with("back 0 1 2");
        for (int what = 0; what < 3; what++) {
            int which = what;
            s.refused(x, Sheet.NO, -3, "claims " + what, y -> y.claims(which));
        }
        s.refused(x, Sheet.NO, -2000000, "owed", y -> y.owed(0, 1));
        s.refused(x, Sheet.NO, -2000000, "net", y -> y.net(0));
        s.refused(x, Sheet.NO, -3, "fewest", RolledStones::fewest);
        s.taken(x, 11, "the item is ended", y -> y.type(';', 1));
        s.asked(x, -2, "and all goes by it", y -> y.owed(0, 1));
    }

    private void faultIsNeverRefused() {
        s.asked(with("back 0 1 2;"), -1, "none", RolledStones::fault);
        s.asked(with("x"), 0, "a fault", RolledStones::fault);
    }

    // ---- claims

    private static int unsure(RolledStones x) {
        return x.claims(2);
    }

    private void ofAStoneNotFound() {
        RolledStones x = with("claim 0 1 5 1 9;");
        s.asked(x, 0, "nothing was found", BookBounds::unsure);
        x.found(9, 0, 100);
        s.asked(x, 0, "another one was found elsewhere", BookBounds::unsure);
        x.found(9, 1, 100);
        s.asked(x, 1, "it was", BookBounds::unsure);
        x.found(8, 0, 100);
        s.asked(x, 0, "it is not told any more", BookBounds::unsure);
    }

    private void noEarlierThanTheClaim() {
        RolledStones x = with("claim 0 1 5 1 9;");
        int[] nights = {0, 4, 5, 6, 19};
        for (int k : nights) {
            x.found(k, 1, 100);
            s.asked(x, k >= 5 ? 1 : 0, "found behind " + k, BookBounds::unsure);
        }
        RolledStones ends = with("claim 0 1 0 1 9;claim 0 1 19 1 9;");
        ends.found(0, 1, 100);
        s.asked(ends, 1, "the first night alone", BookBounds::unsure);
        ends.found(19, 1, 100);
        s.asked(ends, 2, "the last night, too", BookBounds::unsure);
    }

    private void unsureByProof() {
        RolledStones x = with("claim 0 1 5 1 9;");
        x.found(5, 1, 30);
        s.asked(x, 0, "it lies there", BookBounds::unsure);
        x.found(5, 1, 31);
        s.asked(x, 1, "it does not", BookBounds::unsure);
        x.night(5, 1, 99, 4, false);
        s.asked(x, 0, "by that night's weather it does", BookBounds::unsure);
    }

    private void didNotMoveThatNight() {
        RolledStones x = with("claim 0 1 0 0 9;claim 0 1 1 0 9;");
        x.found(5, 0, 100);
        s.asked(x, 1, "it moved in night 0, in night 1 it did not", BookBounds::unsure);
        x.night(5, 1, 4, 1, false);
        s.asked(x, 1, "it is the claim's night, not the one behind which it was found", BookBounds::unsure);
        x.night(1, 3, 4, 1, false);
        s.asked(x, 0, "now it moved in both", BookBounds::unsure);
        RolledStones ring = Sheet.light(66, 1, 16);
        ring.fence(67, 1);
        ring.fence(79, 1);
        ring.fence(78, 1);
        Sheet.text(ring, "claim 0 1 0 0 9;");
        ring.found(0, 0, 100);
        s.asked(ring, 1, "round and home again it did not move", BookBounds::unsure);
    }

    private void wrongOrUnsure() {
        RolledStones x = with("claim 0 1 0 0 9;claim 0 1 1 0 9;claim 2 3 6 1 0;claim 2 3 5 1 0;");
        s.asked(x, 4, "all wrong", y -> y.claims(1));
        x.found(5, 0, 100);
        s.asked(x, 3, "wrong", y -> y.claims(1));
        s.asked(x, 1, "unsure", y -> y.claims(2));
        x.found(5, 1, 100);
        s.asked(x, 2, "wrong", y -> y.claims(1));
        s.asked(x, 2, "unsure", y -> y.claims(2));
    }

    // ---- money

    private void owedForWrongOnes() {
        RolledStones x = with("claim 0 1 0 0 50;claim 0 1 1 0 7;claim 1 0 1 1 99;claim 0 2 0 0 0;");
        s.asked(x, 57, "two claims", y -> y.owed(0, 1));
        s.asked(x, 99, "the other way", y -> y.owed(1, 0));
        s.asked(x, 0, "of nothing", y -> y.owed(0, 2));
        s.asked(x, 0, "of none", y -> y.owed(5, 4));
        x.found(5, 0, 100);
        s.asked(x, 50, "an unsure one is not owed for", y -> y.owed(0, 1));
        s.asked(x, 99, "of another stone it is", y -> y.owed(1, 0));
    }

    private void moreGivenBackThanOwed() {
        RolledStones x = with("claim 0 1 0 0 50;back 0 1 50;");
        s.asked(x, 0, "even", y -> y.owed(0, 1));
        Sheet.text(x, "back 0 1 1;");
        s.asked(x, -1, "one more", y -> y.owed(0, 1));
        Sheet.text(x, "back 0 1 99;back 0 1 99;");
        s.asked(x, -199, "much more", y -> y.owed(0, 1));
        s.asked(x, 0, "the other owes nothing", y -> y.owed(1, 0));
    }

    private void netsAreEvenInAll() {
        RolledStones x = with("claim 0 1 0 0 50;claim 1 2 0 0 7;claim 2 0 2 1 20;back 0 1 30;back 4 5 9;claim 5 0 0 0 99;");
        int[] nets = {-20 + 20 + 99, 20 - 7, 7 - 20, 0, 9, -9 - 99};
        int sum = 0;
        for (int farmer = 0; farmer < 6; farmer++) {
            int who = farmer;
            s.asked(x, nets[farmer], "of " + farmer, y -> y.net(who));
            sum += x.net(farmer);
        }
        s.due("in all", sum, 0);
    }

    private void netsAtTheEdges() {
        RolledStones x = with("claim0 5 0 0 99;".repeat(12));
        s.asked(x, -1188, "who owes most", y -> y.net(0));
        s.asked(x, 1188, "who has most to get", y -> y.net(5));
        x.clear();
        Sheet.text(x, "back0 5 99;".repeat(18));
        s.asked(x, 1782, "who gave back most", y -> y.net(0));
        s.asked(x, -1782, "who got back most", y -> y.net(5));
        s.asked(new RolledStones(), 0, "an empty book", y -> y.net(3));
    }

    private void payments(int many, String text) {
        s.asked(with(text), many, "'" + text + "'", RolledStones::fewest);
    }

    private void fewestPayments() {
        payments(1, "back 0 1 9;");
        payments(0, "back 0 1 9;back 1 0 9;");
        payments(0, "back 0 1 9;back 1 2 9;back 2 0 9;");
        payments(1, "back 0 1 9;back 1 2 9;");
        payments(2, "back 0 1 9;back 1 2 8;");
        payments(3, "back 0 1 9;back 2 3 9;back 4 5 9;");
        payments(3, "back 0 1 9;back 2 3 8;back 4 5 7;");
        payments(5, "back 0 1 1;back 0 2 2;back 0 3 4;back 0 4 8;back 0 5 16;");
        // Nets 5, -2, -3 and 7, -1, -6: two groups of three, each even in itself.
        payments(4, "back 0 1 2;back 0 2 3;back 3 4 1;back 3 5 6;");
        payments(4, "back 0 5 5;back 3 1 2;back 3 2 3;back 3 4 1;back 3 5 1;");
    }

    private void fewestOfNothing() {
        s.asked(new RolledStones(), 0, "an empty book", RolledStones::fewest);
        payments(0, "claim 0 1 2 0 0;");
        payments(0, "   ");
    }

    private void fewestByAFault() {
        s.refused(with("back"), Sheet.NO, -3, "a fault", RolledStones::fewest);
    }

    // ---- promises 25 to 30

    private void lowestBytes() {
        for (int n = 1; n <= 8; n++) {
            RolledStones x = new RolledStones();
            int many = n;
            s.taken(x, many, n + " bytes", y -> y.type(0x0102030405060708L, many));
            long[] bytes = new long[n];
            for (int i = 0; i < n; i++) {
                bytes[i] = 8 - n + 1 + i;
            }
            s.due("bytes of " + n, x.digest(), StateBounds.digestOfBook(bytes));
        }
        RolledStones x = new RolledStones();
        x.type(0x61L, 1);
        s.taken(x, 3, "two more", y -> y.type(0xFF6263L, 2));
        s.due("one behind the other", x.digest(), StateBounds.digestOfBook(0x61, 0x62, 0x63));
    }

    private void bytesOverTheSign() {
        RolledStones x = new RolledStones();
        s.taken(x, 8, "eight of all ones", y -> y.type(-1L, 8));
        s.due("each is 255", x.digest(), StateBounds.digestOfBook(255, 255, 255, 255, 255, 255, 255, 255));
        x.clear();
        s.taken(x, 8, "the least of all", y -> y.type(Long.MIN_VALUE, 8));
        s.due("128, then nothing", x.digest(), StateBounds.digestOfBook(128, 0, 0, 0, 0, 0, 0, 0));
    }

    private void fullBook() {
        RolledStones x = new RolledStones();
        for (int i = 0; i < 24; i++) {
            x.type(0x2020202020202020L, 8);
        }
        s.taken(x, 193, "one more", y -> y.type(32, 1));
        s.refused(x, Sheet.FULL, -4, "eight are one too many: none comes", y -> y.type(0, 8));
        s.due("bytes still", x.count(2), 193);
        s.taken(x, 200, "seven fill it", y -> y.type(0, 7));
        s.refused(x, Sheet.FULL, -4, "one", y -> y.type(0, 1));
        s.refused(x, Sheet.BAD, -2, "BAD comes first: none", y -> y.type(0, 0));
        s.refused(x, Sheet.BAD, -2, "BAD comes first: nine", y -> y.type(0, 9));
        s.taken(x, 200, "cleared", RolledStones::clear);
        s.taken(x, 8, "there is room again", y -> y.type(0, 8));
    }

    private void cleared() {
        RolledStones x = new RolledStones();
        s.taken(x, 0, "an empty one", RolledStones::clear);
        x.type(0x6162L, 2);
        s.taken(x, 2, "one of two", RolledStones::clear);
        s.due("nothing is left", x.digest(), new RolledStones().digest());
        s.taken(x, 0, "again", RolledStones::clear);
    }

    private void howManyClaims() {
        RolledStones x = with("");
        s.asked(x, 0, "an empty book", y -> y.claims(0));
        Sheet.text(x, "back 0 1 2;");
        s.asked(x, 0, "what was given back is none", y -> y.claims(0));
        Sheet.text(x, "claim0 1 2 0 3;".repeat(12));
        s.asked(x, 12, "many", y -> y.claims(0));
        s.asked(x, 12, "wrong ones", y -> y.claims(1));
        s.asked(x, 0, "unsure ones", y -> y.claims(2));
        x.clear();
        Sheet.text(x, "claim0 1 2 0 3;".repeat(13));
        s.asked(x, 13, "as many as there is room for", y -> y.claims(0));
        s.asked(x, 39, "all are owed for", y -> y.owed(0, 1));
    }

    private void owedByEachToEach() {
        RolledStones x = with("claim0 5 0 0 1;claim5 0 0 0 2;back3 4 7;");
        for (int by = 0; by < 6; by++) {
            for (int to = 0; to < 6; to++) {
                int due = by == 0 && to == 5 ? 1 : by == 5 && to == 0 ? 2 : by == 3 && to == 4 ? -7 : 0;
                s.due("by " + by + " to " + to, x.owed(by, to), by == to ? -1000000 : due);
            }
        }
        s.due("refused", x.status(0), 6);
    }

    private void owedToOneself() {
        for (int farmer = 0; farmer < 6; farmer++) {
            int who = farmer;
            s.refused(Sheet.some(), Sheet.BAD, -1000000, "by " + farmer + " to himself", x -> x.owed(who, who));
        }
    }

    /** By a fault it is refused as NO, but what is BAD is so first. */
    private void faultRefuses(long no, long bad, ToLongFunction<RolledStones> call,
            ToLongFunction<RolledStones> badCall) {
        RolledStones x = with("back 0 1 2;x");
        s.refused(x, Sheet.NO, no, "by a fault", call);
        s.refused(x, Sheet.BAD, bad, "BAD comes first", badCall);
        x.clear();
        s.taken(x, 0, "an empty book has none", call);
    }
}
