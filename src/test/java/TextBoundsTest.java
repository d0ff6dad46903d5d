/** Each sentence of the document's part 1 and of promises 1 to 4 that names a bound has a test of its own here. */
public final class TextBoundsTest {
    private static final String KIND = "k1 1;";
    private static final String CHILD = "c0 1;";
    private static final String THING = "t0;";
    private static final String TWO = "k1 1;c0 1;c0 1;";
    private static final String ALL_LOOK = "l0 1;l0 2;l0 3;l1 0;l1 2;l1 3;l2 0;l2 1;l2 3;l3 0;l3 1;l3 2;";

    public static void main(String[] args) {
        howManyThereMayBe();
        numbersInTheirBounds();
        pricesForEachKind();
        whoLooksAtWhom();
        kindsOfThings();
        figuresAndBlanks();
        firstAndLeastFault();
        faultOne();
        faultTwo();
        faultThree();
        faultFour();
        emptyText();
        promiseOne();
        promiseTwo();
        promiseThree();
        promiseFour();
        Check.finish("TextBoundsTest");
    }

    private static void howManyThereMayBe() {
        Check.sentence("THE PARTY is told in a text (240 letters at most)");
        NineBags long240 = Check.partyOf(Check.atEndOf(240, "k7 8;c0 9;t0;"), 1);
        Check.due("the 240th letter is read", long240.told(2), 1);
        Check.faultOf(Check.atEndOf(240, "x"), 1, 239);
        Check.faultOf(Check.atEndOf(240, "k"), 1, 240);

        Check.sentence("'k' P L ';' (5 KINDS at most");
        NineBags five = Check.partyOf("k1 11;k2 12;k3 13;k4 14;k5 15;", 0);
        Check.due("kinds", five.told(0), 5);
        Check.due("P of the fifth", five.kind(4, 0), 5);
        Check.due("L of the fifth", five.kind(4, 1), 15);
        Check.faultOf("k1 11;k2 12;k3 13;k4 14;k5 15;k6 16;", 3, 30);

        Check.sentence("'c' A V {',' V} ';' (4 CHILDREN at most");
        NineBags four = Check.partyOf(KIND + "c1 5;c2 6;c3 7;c4 8;", 4);
        Check.due("children", four.told(1), 4);
        Check.due("A of the fourth", four.child(3, 0), 4);
        Check.due("V of the fourth", four.gives(3, 0), 8);
        Check.faultOf(KIND + "c1 5;c2 6;c3 7;c4 8;c5 9;", 3, 25);

        Check.sentence("(4 CHILDREN at most, behind all KINDS");
        Check.partyOf("k1 1;k2 2;c0 1,2;", 1);
        Check.faultOf("k1 1;c0 1;k2 2;", 3, 10);

        Check.sentence("'t' K ';' (7 THINGS at most");
        NineBags seven = Check.partyOf("k1 1;k2 2;" + THING.repeat(6) + "t1;", 0);
        Check.due("things", seven.told(2), 7);
        Check.due("KIND of the seventh", seven.thing(6, 0), 1);
        Check.due("there is no eighth", seven.thing(7, 0), NineBags.UNKNOWN);
        Check.faultOf(KIND + THING.repeat(8), 3, 26);
    }

    private static void numbersInTheirBounds() {
        Check.sentence("cost P pence, 0 .. 999");
        Check.due("least P", Check.partyOf("k0 1;", 0).kind(0, 0), 0);
        Check.due("greatest P", Check.partyOf("k999 1;", 0).kind(0, 0), 999);
        Check.faultOf("k1000 1;", 2, 1);
        Check.faultOf("k-1 1;", 1, 1);

        Check.sentence("last L days, 0 .. 99");
        Check.due("least L", Check.partyOf("k1 0;", 0).kind(0, 1), 0);
        Check.due("greatest L", Check.partyOf("k1 99;", 0).kind(0, 1), 99);
        Check.faultOf("k1 100;", 2, 3);
        Check.faultOf("k1 999;", 2, 3);
        Check.faultOf("k1 -1;", 1, 3);

        Check.sentence("must not have KINDS of A, 0 .. 31, a SET");
        Check.due("least A", Check.partyOf(KIND + "c0 1;", 1).child(0, 0), 0);
        Check.due("greatest A", Check.partyOf(KIND + "c31 1;", 1).child(0, 0), 31);
        Check.faultOf(KIND + "c32 1;", 2, 6);
        Check.faultOf(KIND + "c-1 1;", 1, 6);

        Check.sentence("would give V, 0 .. 99");
        NineBags prices = Check.partyOf("k1 1;k1 1;k1 1;c0 0,99,0;c0 99,0,99;", 2);
        Check.due("least V, the first", prices.gives(0, 0), 0);
        Check.due("greatest V, in the middle", prices.gives(0, 1), 99);
        Check.due("least V, the last", prices.gives(0, 2), 0);
        Check.due("greatest V, the first", prices.gives(1, 0), 99);
        Check.due("greatest V, the last", prices.gives(1, 2), 99);
        Check.faultOf("k1 1;k1 1;k1 1;c0 100,9,9;", 2, 18);
        Check.faultOf("k1 1;k1 1;k1 1;c0 9,100,9;", 2, 20);
        Check.faultOf("k1 1;k1 1;k1 1;c0 9,9,100;", 2, 22);
        Check.faultOf(KIND + "c0 -1;", 1, 8);
    }

    private static void pricesForEachKind() {
        Check.sentence("would give V for each KIND in turn, just as many as KINDS");
        for (int kinds = 1; kinds <= 5; kinds++) {
            String head = KIND.repeat(kinds) + "c0 7";
            String right = head + ",8".repeat(kinds - 1);
            Check.due("V of the last", Check.partyOf(right + ";", 1).gives(0, kinds - 1), kinds == 1 ? 7 : 8);
            Check.faultOf(right + ",8;", 1, right.length());
            if (kinds > 1) {
                String fewer = head + ",8".repeat(kinds - 2);
                Check.faultOf(fewer + ";", 1, fewer.length());
            }
        }
        NineBags turns = Check.partyOf("k1 1;k1 1;k1 1;c0 4,5,6;", 1);
        for (int k = 0; k < 3; k++) {
            Check.due("in turn " + k, turns.gives(0, k), 4 + k);
        }
    }

    private static void whoLooksAtWhom() {
        Check.sentence("'l' C D ';' (CHILD C looks at CHILD D, unlike");
        for (int c = 0; c < 4; c++) {
            Check.faultOf(KIND + CHILD.repeat(4) + "l" + c + " " + c + ";", 4, 28);
        }

        Check.sentence("both told ahead");
        Check.partyOf(TWO + "l0 1;l1 0;", 2);
        Check.faultOf(TWO + "l2 0;", 2, 16);
        Check.faultOf(TWO + "l0 2;", 2, 18);
        Check.faultOf(TWO + "l2 0;" + CHILD, 2, 16);
        Check.faultOf(TWO + "l1 2;" + CHILD, 2, 18);
        Check.faultOf(KIND + "l0 0;", 2, 6);
        Check.faultOf("l0 0;", 2, 1);

        Check.sentence("each once");
        NineBags all = Check.partyOf(KIND + CHILD.repeat(4) + ALL_LOOK, 4);
        for (int c = 0; c < 4; c++) {
            Check.due("child " + c + " looks at all others", all.child(c, 3), 15 - (1 << c));
        }
        for (int i = 0; i < ALL_LOOK.length(); i += 5) {
            Check.faultOf(KIND + CHILD.repeat(4) + ALL_LOOK + ALL_LOOK.substring(i, i + 5), 4, 88);
        }
    }

    private static void kindsOfThings() {
        Check.sentence("of KIND K told ahead");
        NineBags five = Check.partyOf(KIND.repeat(5) + "t4;t0;", 0);
        Check.due("the last KIND", five.thing(0, 0), 4);
        Check.due("the first KIND", five.thing(1, 0), 0);
        Check.faultOf(KIND.repeat(5) + "t5;", 2, 26);
        Check.faultOf(KIND + "t1;" + KIND, 2, 6);
        Check.partyOf(KIND + "t0;" + KIND + "t1;", 0);
        Check.faultOf("t0;", 2, 1);
    }

    private static void figuresAndBlanks() {
        Check.sentence("NUMBERS have one to three figures");
        String[] ahead = {"k", "k1 ", KIND + "c", KIND + "c0 ", KIND.repeat(2) + "c0 1,", TWO + "l", TWO + "l0 ", KIND + "t"};
        String[] behind = {" 1;", ";", " 1;", ";", ";", " 0;", ";", ";"};
        // No child looks at itself: where the other number of an 'l' is 0, this one is 1.
        String[] figure = {"0", "0", "0", "0", "0", "1", "1", "0"};
        for (int i = 0; i < ahead.length; i++) {
            int place = ahead[i].length();
            Check.faultOf(ahead[i] + ";", 1, place);
            for (int zeros = 0; zeros < 3; zeros++) {
                NineBags bags = new NineBags();
                Check.feedAll(bags, ahead[i] + "0".repeat(zeros) + figure[i] + behind[i]);
                Check.due(zeros + " zeros at " + ahead[i], bags.party() >= 0);
            }
            Check.faultOf(ahead[i] + "000" + figure[i] + behind[i], 2, place);
            Check.faultOf(ahead[i] + "0000" + figure[i] + behind[i], 2, place);
        }

        Check.sentence("a word is one letter");
        Check.faultOf("kk1 1;", 1, 1);
        Check.faultOf("kind 1 1;", 1, 1);
        Check.faultOf("K1 1;", 1, 0);

        Check.sentence("blanks (32) may stand anywhere");
        NineBags wide = Check.partyOf("   k  12  3  ;  c  4  56  ;  c  0  7  ;  l  1  0  ;  t  0  ;  ", 2);
        Check.due("P", wide.kind(0, 0), 12);
        Check.due("L", wide.kind(0, 1), 3);
        Check.due("A", wide.child(0, 0), 4);
        Check.due("V", wide.gives(0, 0), 56);
        Check.due("looks", wide.child(1, 3), 1);
        Check.due("things", wide.told(2), 1);
        Check.partyOf(KIND.repeat(3) + "c0 1 ,2, 3;", 1);
        NineBags tight = Check.partyOf("k12 3;c4 56;c0 7;l1 0;t0;", 2);
        Check.due("none but between NUMBERS", tight.gives(0, 0), 56);
        for (int letter : new int[] {0, 9, 10, 13, 31, 33, 160, 255}) {
            Check.faultOf("k1 1" + (char) letter + ";", 1, 4);
            Check.faultOf(KIND + (char) letter, 1, 5);
        }

        Check.sentence("(blanks may not stand) within NUMBERS");
        Check.faultOf("k1 2 3;", 1, 5);
        Check.faultOf(KIND + "c3 1 1;", 1, 10);
        Check.faultOf(KIND + "t0 0;", 1, 8);
        Check.faultOf(TWO + "l0 1 1;", 1, 20);

        Check.sentence("two NUMBERS side by side need one");
        Check.faultOf("k12;", 1, 3);
        Check.faultOf(KIND + "c01;", 1, 8);
        Check.faultOf(TWO + "l01;", 1, 18);
        Check.faultOf(TWO + "l10;", 2, 16);
    }

    private static void firstAndLeastFault() {
        Check.sentence("FAULTS, at the first letter that has one");
        Check.faultOf("k1000 1;x", 2, 1);
        Check.faultOf("k1 1;x1000", 1, 5);
        Check.faultOf("c0 1000;", 3, 0);
        Check.faultOf(TWO + "l0 0;l9 9;", 4, 18);
        Check.faultOf(TWO + "l9 9;l0 0;", 2, 16);
        Check.faultOf(TWO + "k1000", 3, 15);
        Check.faultOf(TWO + "l0 0x", 4, 18);

        Check.sentence("(the end at the text's length)");
        for (int length = 1; length < Check.NINE.length(); length++) {
            String part = Check.NINE.substring(0, length);
            if (!part.endsWith(";")) {
                Check.faultOf(part, 1, length);
                Check.faultOf(part + "  ", 1, length + 2);
            }
        }

        endOfFullText();
        endBehindLongerText();

        Check.sentence("of these the least");
        Check.faultOf("k1 1 1000;", 1, 5);
        Check.faultOf("1000", 1, 0);
        Check.faultOf(KIND.repeat(5) + "t k", 1, 27);
        Check.faultOf(TWO + "t c", 1, 17);
        Check.faultOf(KIND + "c0 1,1000;", 1, 9);
        Check.faultOf(TWO + "l0 0000;", 2, 18);
        Check.faultOf(TWO + "l0 1;l0 0001;", 2, 23);
    }

    /** Whatever is missing, nothing behind the 240th letter is looked at. */
    private static void endOfFullText() {
        Check.sentence("(the end at the text's length: 240)");
        String[] ends = {"k", "k1", "k1 ", "k1 1", KIND + "c", KIND + "c0", KIND + "c0 1", KIND.repeat(2) + "c0 1", KIND.repeat(2) + "c0 1,",
            TWO + "l", TWO + "l0", TWO + "l0 1", KIND + "t", KIND + "t0"};
        for (String end : ends) {
            Check.faultOf(Check.atEndOf(240, end), 1, 240);
        }
        Check.partyOf(Check.atEndOf(240, KIND), 0);
    }

    /** Letters of an earlier, longer text are no part of this one, though they would make it whole. */
    private static void endBehindLongerText() {
        Check.sentence("THE TEXT (it is empty then): the end at the text's length, behind a longer one, too");
        for (int length = 1; length < Check.NINE.length(); length++) {
            NineBags bags = Check.partyOf(Check.NINE, 3);
            String part = Check.NINE.substring(0, length);
            boolean whole = part.endsWith(";");
            Check.feedAll(bags, part);
            Check.due("'" + part + "' is whole", bags.party() >= 0 ? 1 : 0, whole ? 1 : 0);
            Check.due("fault() of '" + part + "'", bags.fault(), whole ? NineBags.NONE : length);
        }
    }

    private static void faultOne() {
        Check.sentence("1 it cannot stand there (a letter that is no word");
        for (int letter = 0; letter <= 255; letter++) {
            boolean isWord = "kclt".indexOf(letter) >= 0;
            if (!isWord && letter != ' ') {
                Check.faultOf("" + (char) letter, 1, 0);
                Check.faultOf(KIND + (char) letter + KIND, 1, 5);
            }
            if (letter != ';' && letter != ' ' && !Character.isDigit(letter)) {
                Check.faultOf("k1 1" + (char) letter, 1, 4);
            }
        }
        Check.faultOf(KIND + ";", 1, 5);
        Check.faultOf("k1,1;", 1, 2);
        Check.faultOf("k1 1,", 1, 4);
        Check.faultOf(TWO + "l0,1;", 1, 17);
        Check.faultOf(KIND + "c0,1;", 1, 7);

        Check.sentence("a V too many: at its ','");
        Check.faultOf(KIND + "c0 1,1;", 1, 9);
        Check.faultOf(KIND + "c0 1  , 1;", 1, 11);
        Check.faultOf(KIND.repeat(5) + "c0 1,2,3,4,5,6;", 1, 37);

        Check.sentence("too few: at what stands there instead of ','");
        Check.faultOf(KIND.repeat(2) + "c0 1;", 1, 14);
        Check.faultOf(KIND.repeat(2) + "c0 1  ;", 1, 16);
        Check.faultOf(KIND.repeat(2) + "c0 1", 1, 14);
        Check.faultOf(KIND.repeat(2) + "c0 1 2;", 1, 15);
        Check.faultOf(KIND.repeat(2) + "c0 1c0 1,1;", 1, 14);
        Check.faultOf(KIND.repeat(5) + "c0 1,2,3,4;", 1, 35);
    }

    private static void faultTwo() {
        Check.sentence("2 a NUMBER of four figures or more (at its first)");
        Check.faultOf("k  1000 1;", 2, 3);
        Check.faultOf("k0000", 2, 1);
        Check.faultOf("k" + "9".repeat(239), 2, 1);
        Check.faultOf("k4294967296 1;", 2, 1);
        Check.faultOf("k18446744073709551616 1;", 2, 1);

        Check.sentence("or out of its bounds (at its first)");
        Check.faultOf("k1   100;", 2, 5);
        Check.faultOf(KIND + "c  32 1;", 2, 8);
        Check.faultOf(KIND + "c0   100;", 2, 10);

        Check.sentence("a KIND, a CHILD that was not told yet (at its first)");
        Check.faultOf(KIND + "t  1;", 2, 8);
        Check.faultOf(KIND + "t 001;", 2, 7);
        Check.faultOf(TWO + "l  2 0;", 2, 18);
        Check.faultOf(TWO + "l0  002;", 2, 19);
    }

    private static void faultThree() {
        Check.sentence("3 a sixth 'k' (at it)");
        Check.faultOf(KIND.repeat(5) + "  k1 1;", 3, 27);
        Check.faultOf(KIND.repeat(5) + "k", 3, 25);

        Check.sentence("a 'k' behind a CHILD (at it)");
        Check.faultOf(KIND + CHILD + " k1 1;", 3, 11);
        Check.faultOf(KIND + CHILD + THING + "k", 3, 13);

        Check.sentence("a fifth 'c' (at it)");
        Check.faultOf(KIND + CHILD.repeat(4) + " c0 1;", 3, 26);
        Check.faultOf(KIND + CHILD.repeat(4) + "c", 3, 25);

        Check.sentence("a 'c' without KINDS ahead (at it)");
        Check.faultOf("c0 1;", 3, 0);
        Check.faultOf("  c", 3, 2);
        Check.faultOf("c0;", 3, 0);

        Check.sentence("an eighth 't' (at it)");
        Check.faultOf(KIND + THING.repeat(7) + " t0;", 3, 27);
        Check.faultOf(KIND + THING.repeat(7) + "t", 3, 26);
        Check.faultOf(KIND + THING.repeat(7) + "t9", 3, 26);
    }

    private static void faultFour() {
        Check.sentence("4 D like C (at the D)");
        Check.faultOf(TWO + "l1   1;", 4, 20);
        Check.faultOf(TWO + "l1 001;", 4, 18);
        Check.faultOf(TWO + "l001 1", 4, 20);

        Check.sentence("at whom C looks already (at the D)");
        Check.faultOf(TWO + "l0 1;l0  1;", 4, 24);
        Check.faultOf(TWO + "l0 1;t0;l1 0;l0 1", 4, 31);
    }

    private static void emptyText() {
        Check.sentence("An empty text: no PARTY");
        NineBags bags = new NineBags();
        Check.due("of a new object", bags.party(), 0);
        Check.due("no fault", bags.fault(), NineBags.NONE);
        noParty(bags);
        NineBags ahead = Check.partyOf(Check.NINE, 3);
        Check.due("behind a party", ahead.party(), 0);
        Check.due("no fault then", ahead.fault(), NineBags.NONE);
        noParty(ahead);
        noParty(Check.partyOf(" ".repeat(240), 0));
    }

    private static void noParty(NineBags bags) {
        for (int what = 0; what <= 11; what++) {
            Check.due("no party: told(" + what + ")", bags.told(what), 0);
        }
        Check.due("no party: kind", bags.kind(0, 0), NineBags.UNKNOWN);
        Check.due("no party: child", bags.child(0, 0), NineBags.UNKNOWN);
        Check.due("no party: thing", bags.thing(0, 0), NineBags.UNKNOWN);
        Check.due("no party: drift", bags.drift(1), NineBags.NOT);
        Check.due("no party: share", bags.share(NineBags.NONE), NineBags.NONE);
        Check.due("no party: had", bags.had(NineBags.NONE), 0);
        Check.due("no party: undo", bags.undo(), NineBags.NOT);
        Check.due("no party: goBack", bags.goBack(0), NineBags.NOT);
    }

    private static void promiseOne() {
        Check.sentence("Promise 1: No PARTY");
        NineBags bags = new NineBags();
        noParty(bags);
        Check.due("gives", bags.gives(0, 0), NineBags.UNKNOWN);
        Check.due("envy", bags.envy(0, 1), NineBags.UNKNOWN);
        Check.due("give", bags.give(0, 0), NineBags.UNKNOWN);
        Check.due("take", bags.take(0), NineBags.UNKNOWN);
        Check.due("swap", bags.swap(0, 1), NineBags.UNKNOWN);
        Check.due("draw", bags.draw(0), NineBags.UNKNOWN);
        Check.due("swaps", bags.swaps(NineBags.NONE), 0);
        Check.due("the first of swaps", bags.swaps(0), NineBags.NONE);
        Check.due("settled", bags.settled(0), 0);
        Check.due("tears then", bags.settled(1), 0);
        Check.due("choice", bags.choice(1, 0), NineBags.UNKNOWN);
        Check.due("bestOrder", bags.bestOrder(0), NineBags.NONE);
        Check.due("sweets", bags.sweets(9, 3), NineBags.NONE);
        Check.due("lasts", bags.lasts(0), 0);
        Check.due("rises", bags.rises(30), 0);
        Check.due("spare", bags.spare(0), NineBags.UNKNOWN);
        Check.due("dry", bags.dry(), 1000000000);
        Check.due("see", bags.see(0, 1, true), NineBags.UNKNOWN);
        Check.due("watch", bags.watch(), NineBags.NONE);
        Check.due("write", bags.write(0, NineBags.NONE), NineBags.UNKNOWN);
        Check.due("tear", bags.tear(), 0);
        Check.due("judge", bags.judge(), NineBags.NONE);
    }

    private static void promiseTwo() {
        Check.sentence("Promise 2: One letter (a number 0 .. 255)");
        for (int letter = 0; letter <= 255; letter++) {
            Check.due("feed(" + letter + ")", new NineBags().feed(letter), 1);
        }
        NineBags bags = new NineBags();
        Check.due("feed(-1)", bags.feed(-1), NineBags.OUTSIDE);
        Check.due("feed(256)", bags.feed(256), NineBags.OUTSIDE);
        Check.due("feed of 256 and a 'k'", bags.feed(256 + 'k'), NineBags.OUTSIDE);
        Check.due("feed(greatest)", bags.feed(Integer.MAX_VALUE), NineBags.OUTSIDE);
        Check.due("feed(least)", bags.feed(Integer.MIN_VALUE), NineBags.OUTSIDE);
        Check.due("none of these is in the text", bags.told(3), 0);

        Check.sentence("Promise 2: comes behind THE TEXT: how many it has");
        for (int i = 1; i <= 240; i++) {
            Check.due("letter " + i, bags.feed(' '), i);
        }

        Check.sentence("Promise 2: OUTSIDE, FULL (240)");
        Check.due("the 241st", bags.feed('x'), NineBags.FULL);
        Check.due("the 241st again", bags.feed('x'), NineBags.FULL);
        Check.due("out of its bounds comes first", bags.feed(256), NineBags.OUTSIDE);
        Check.due("below its bounds comes first", bags.feed(-1), NineBags.OUTSIDE);
        Check.due("240 letters still", bags.told(3), 240);
        Check.due("no 'x' is in the text", bags.party(), 0);
        Check.due("room again", bags.feed('k'), 1);
    }

    private static void promiseThree() {
        Check.sentence("Promise 3: THE TEXT (it is empty then, with a FAULT, too)");
        NineBags bags = Check.partyOf(Check.NINE, 3);
        Check.due("behind a good text", bags.told(3), 0);
        Check.feedAll(bags, "k1 1;x");
        Check.due("a fault", bags.party(), -11);
        Check.due("behind a fault", bags.told(3), 0);
        Check.due("the first letter of the next text", bags.feed('k'), 1);

        Check.sentence("Promise 3: -10 less the number of its FAULT");
        Check.faultOf("x", 1, 0);
        Check.faultOf("k1000", 2, 1);
        Check.faultOf("c", 3, 0);
        Check.faultOf(TWO + "l0 0;", 4, 18);

        Check.sentence("Promise 3: how many CHILDREN");
        for (int children = 0; children <= 4; children++) {
            Check.partyOf(KIND + CHILD.repeat(children), children);
        }

        nothingEarlierStays();
        whatIsGone();
        aFaultChangesNothing();
    }

    private static void nothingEarlierStays() {
        Check.sentence("Promise 3: THE TEXT becomes THE PARTY (nothing of an earlier one stays)");
        NineBags earlier = Check.partyOf(KIND + "c31 9;c0 9;c0 9;l0 1;l1 0;l2 1;t0;t0;t0;", 3);
        earlier.draw(0);
        Check.due("share ahead", earlier.share(2), 2);
        Check.due("had ahead", earlier.had(NineBags.NONE), 27);
        Check.feedAll(earlier, KIND + "c0 1;c0 2;l1 0;t0;");
        Check.due("party()", earlier.party(), 2);
        Check.due("A anew", earlier.child(0, 0), 0);
        Check.due("V anew", earlier.gives(1, 0), 2);
        Check.due("looks anew", earlier.child(0, 3), 0);
        Check.due("share anew", earlier.share(0), 1);
        Check.due("had anew", earlier.had(NineBags.NONE), 2);
        Check.due("watch anew", earlier.watch(), 10);
        earlier.give(0, 1);
        Check.due("envy anew", earlier.told(5), 0);
        Check.feedAll(earlier, KIND + "c0 1;c0 2;t0;");
        Check.due("party() again", earlier.party(), 2);
        earlier.give(0, 0);
        Check.due("nobody looks now", earlier.told(6), 0);
        Check.due("at nobody", earlier.child(1, 3), 0);
    }

    private static void whatIsGone() {
        Check.sentence("Promise 3: all on the table; nothing SEEN, no BOOK; IMAGES, what could be undone are gone; THE SEED stays");
        NineBags used = usedParty();
        Check.feedAll(used, Check.NINE);
        Check.due("party()", used.party(), 3);
        Check.due("all on the table", used.told(4), 31);
        Check.due("nothing SEEN", used.told(9), 0);
        Check.due("all ways again", used.had(NineBags.NONE), 243);
        Check.due("no BOOK", used.told(10), 0);
        Check.due("nothing is WRONG", used.judge(), NineBags.NONE);
        Check.due("none can be undone", used.told(11), 0);
        Check.due("IMAGE 0", used.goBack(0), NineBags.NOT);
        Check.due("IMAGE 1", used.goBack(1), NineBags.NOT);
        Check.due("THE SEED", used.seed(0), 4711);
    }

    private static void aFaultChangesNothing() {
        Check.sentence("Promise 3: (with a FAULT) all else is as it was");
        String ahead = Whole.of(usedParty());
        for (String faulty : new String[] {"x", "k5 5;c0 9;t0;x", "k1000", "k1 1;c0 1;k", TWO + "l0 1;l0 1;"}) {
            NineBags behind = usedParty();
            Check.feedAll(behind, faulty);
            Check.due("party() of '" + faulty + "'", behind.party() < -10);
            Check.due("all behind '" + faulty + "'", Whole.of(behind), ahead);
        }
    }

    private static NineBags usedParty() {
        NineBags bags = Check.partyOf(Check.NINE, 3);
        bags.give(0, 1);
        bags.keep(0);
        bags.give(2, 0);
        bags.keep(1);
        bags.give(3, 2);
        bags.give(4, 1);
        bags.see(0, 1, true);
        bags.write(1, 2);
        bags.seed(4711);
        return bags;
    }

    private static void promiseFour() {
        Check.sentence("Promise 4: The letter of the FAULT of the latest party(); NONE");
        NineBags bags = new NineBags();
        Check.due("ahead of any party()", bags.fault(), NineBags.NONE);
        Check.feedAll(bags, "k1 1;x");
        Check.due("not yet", bags.fault(), NineBags.NONE);
        Check.due("a fault", bags.party(), -11);
        Check.due("its letter", bags.fault(), 5);
        Check.due("asked again", bags.fault(), 5);
        Check.feedAll(bags, "k1000");
        Check.due("still that of the latest party()", bags.fault(), 5);
        Check.due("another fault", bags.party(), -12);
        Check.due("another letter", bags.fault(), 1);
        Check.due("an empty text", bags.party(), 0);
        Check.due("none", bags.fault(), NineBags.NONE);
        Check.feedAll(bags, "c");
        Check.due("the first letter", bags.party(), -13);
        Check.due("letter 0", bags.fault(), 0);
    }
}
