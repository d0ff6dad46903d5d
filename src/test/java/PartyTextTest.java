/** Promises 1 to 4: a new object, feed, party, fault. */
public final class PartyTextTest {
    private static final int WHOLE = 0;

    public static void main(String[] args) {
        newObject();
        feeding();
        goodTexts();
        cannotStand();
        badNumbers();
        badClauses();
        badLooks();
        firstFaultWins();
        faultChangesNothing();
        newPartyClears();
        Check.finish("PartyTextTest");
    }

    private static void newObject() {
        NineBags bags = new NineBags();
        for (int what = 0; what <= 11; what++) {
            Check.due("new: told(" + what + ")", bags.told(what), 0);
        }
        Check.due("new: fault", bags.fault(), -1);
        Check.due("new: kind", bags.kind(0, 0), NineBags.UNKNOWN);
        Check.due("new: child", bags.child(0, 0), NineBags.UNKNOWN);
        Check.due("new: gives", bags.gives(0, 0), NineBags.UNKNOWN);
        Check.due("new: thing", bags.thing(0, 0), NineBags.UNKNOWN);
        Check.due("new: envy", bags.envy(0, 1), NineBags.UNKNOWN);
        Check.due("new: seed", bags.seed(0), 0);
        Check.due("new: goBack", bags.goBack(0), NineBags.NOT);
        Check.due("new: drift", bags.drift(1), NineBags.NOT);
        Check.due("new: dry", bags.dry(), 1000000000);
    }

    private static void feeding() {
        NineBags bags = new NineBags();
        Check.due("feed -1", bags.feed(-1), NineBags.OUTSIDE);
        Check.due("feed 256", bags.feed(256), NineBags.OUTSIDE);
        Check.due("feed least int", bags.feed(Integer.MIN_VALUE), NineBags.OUTSIDE);
        Check.due("feed 0", bags.feed(0), 1);
        Check.due("feed 255", bags.feed(255), 2);
        for (int i = 2; i < 240; i++) {
            Check.due("feed " + i, bags.feed(' '), i + 1);
        }
        Check.due("feed the 241st", bags.feed(' '), NineBags.FULL);
        Check.due("feed wrong when full", bags.feed(300), NineBags.OUTSIDE);
        Check.due("letters", bags.told(3), 240);
        Check.due("party of odd letters", bags.party(), -11);
        Check.due("its place", bags.fault(), 0);
        Check.due("letters behind it", bags.told(3), 0);
        for (int i = 0; i < 240; i++) {
            bags.feed(' ');
        }
        Check.due("party of blanks", bags.party(), 0);
        Check.due("letters behind a good one", bags.told(3), 0);
    }

    private static void goodTexts() {
        Check.partyOf("", 0);
        Check.partyOf("   ", 0);
        Check.partyOf("k0 0;", 0);
        Check.partyOf("k999 99;c31 99;", 1);
        Check.partyOf("  k  12   3 ; c 0  7 ;t 0 ; ", 1);
        Check.partyOf("k007 09;c000 001;", 1);
        Check.partyOf("k1 2;t0;k3 4;t1;c0 1,2;t0;c0 3 , 4;l0 1;t1;l1 0;", 2);
        Check.partyOf("k1 1;k1 1;k1 1;k1 1;k1 1;c0 1,1,1,1,1;c0 1,1,1,1,1;c0 1,1,1,1,1;c0 1,1,1,1,1;", 4);
        Check.partyOf("k1 1;t0;t0;t0;t0;t0;t0;t0;", 0);
    }

    private static void cannotStand() {
        Check.faultOf("x", 1, WHOLE);
        Check.faultOf("  ;", 1, 2);
        Check.faultOf("K1 1;", 1, WHOLE);
        Check.faultOf("k", 1, 1);
        Check.faultOf("k  ", 1, 3);
        Check.faultOf("k1", 1, 2);
        Check.faultOf("k1 1", 1, 4);
        Check.faultOf("k1 1  ", 1, 6);
        Check.faultOf("k12;", 1, 3);
        Check.faultOf("k;", 1, 1);
        Check.faultOf("k-1 1;", 1, 1);
        Check.faultOf("k1,1;", 1, 2);
        Check.faultOf("k1 1 1;", 1, 5);
        Check.faultOf("k1 1;;", 1, 5);
        Check.faultOf("k1 1\t;", 1, 4);
        Check.faultOf("\t", 1, 0);
        Check.faultOf("k1 1;c0 1,", 1, 9);
        Check.faultOf("k1 1;c0 1 1;", 1, 10);
        Check.faultOf("k1 1;k1 1;c0 1,", 1, 15);
        Check.faultOf("k1 1;k1 1;c0 1", 1, 14);
        Check.faultOf("k1 1;k1 1;c0 1 ;", 1, 15);
        Check.faultOf("k1 1;k1 1;c0 1 2;", 1, 15);
        Check.faultOf("k1 1;k1 1;c0 1,2,3;", 1, 16);
        Check.faultOf("k1 1;k1 1;c0,1,2;", 1, 12);
        Check.faultOf("k1 1;t;", 1, 6);
        Check.faultOf("k1 1;t0 0;", 1, 8);
        Check.faultOf("k1 1;c0 1;c0 1;l0;", 1, 17);
        Check.faultOf("k1 1;c0 1;c0 1;l0,1;", 1, 17);
        Check.faultOf("k1 1;c0 1;c0 1;l0 1 0;", 1, 20);
        Check.faultOf("kk", 1, 1);
    }

    private static void badNumbers() {
        Check.faultOf("k1000 1;", 2, 1);
        Check.faultOf("k0001 1;", 2, 1);
        Check.faultOf("k99999999999999999999 1;", 2, 1);
        Check.faultOf("k1  100;", 2, 4);
        Check.faultOf("k1 1;c32 1;", 2, 6);
        Check.faultOf("k1 1;c0 100;", 2, 8);
        Check.faultOf("k1 1;k1 1;c0 1, 100;", 2, 16);
        Check.faultOf("t0;", 2, 1);
        Check.faultOf("k1 1;t1;", 2, 6);
        Check.faultOf("k1 1;t 1;k1 1;", 2, 7);
        Check.faultOf("l0 1;", 2, 1);
        Check.faultOf("k1 1;c0 1;l1 0;", 2, 11);
        Check.faultOf("k1 1;c0 1;l0 1;c0 1;", 2, 13);
        Check.faultOf("k1 1;c0 1;l0 1", 2, 13);
        Check.faultOf("k1000", 2, 1);
    }

    private static void badClauses() {
        Check.faultOf("k1 1;k1 1;k1 1;k1 1;k1 1;k1 1;", 3, 25);
        Check.faultOf("k1 1;c0 1; k1 1;", 3, 11);
        Check.faultOf("k1 1;c0 1;k", 3, 10);
        Check.faultOf("k1 1;c0 1;c0 1;c0 1;c0 1;c0 1;", 3, 25);
        Check.faultOf("c", 3, 0);
        Check.faultOf("  c0;", 3, 2);
        Check.faultOf("k1 1;t0;t0;t0;t0;t0;t0;t0;t0;", 3, 26);
        Check.faultOf("k1 1;t0;t0;t0;t0;t0;t0;t0;t9999;", 3, 26);
    }

    private static void badLooks() {
        Check.faultOf("k1 1;c0 1;l0 0;", 4, 13);
        Check.faultOf("k1 1;c0 1;l0   00", 4, 15);
        Check.faultOf("k1 1;c0 1;c0 1;l0 1;l1 0;l0 1;", 4, 28);
        Check.faultOf("k1 1;c0 1;c0 1;l1 0;l1 1;", 4, 23);
    }

    private static void firstFaultWins() {
        Check.faultOf("k1 1;c0 1000;x", 2, 8);
        Check.faultOf("k1 1 x k1000 1;", 1, 5);
        Check.faultOf("k1 1;c0 1;l0 0 x", 4, 13);
        Check.faultOf("k1 1;t0 k", 1, 8);
        Check.faultOf("k1 1;c0 1;k1000", 3, 10);
    }

    private static void faultChangesNothing() {
        NineBags bags = Check.partyOf(Check.NINE, 3);
        bags.give(0, 1);
        bags.give(2, 0);
        bags.see(0, 1, true);
        bags.write(0, 1);
        bags.seed(77);
        Check.feedAll(bags, "k5 5;c0 9;t0;x");
        Check.due("a fault in between", bags.party(), -11);
        Check.due("its place", bags.fault(), 13);
        Check.due("kinds stay", bags.told(0), 3);
        Check.due("children stay", bags.told(1), 3);
        Check.due("things stay", bags.told(2), 5);
        Check.due("hands stay", bags.thing(0, 1), 1);
        Check.due("seen stays", bags.told(9), 1);
        Check.due("book stays", bags.told(10), 1);
        Check.due("undo stays", bags.told(11), 2);
        Check.due("cost stays", bags.kind(0, 0), 100);
        Check.due("prices stay", bags.gives(0, 0), 5);
        Check.due("ways stay", bags.had(-1), 115);
        Check.due("the seed stays", bags.seed(0), 77);
        Check.due("images stay, none", bags.goBack(0), NineBags.NOT);
        bags.keep(1);
        Check.feedAll(bags, "k");
        Check.due("another fault", bags.party(), -11);
        Check.due("the place of the latest", bags.fault(), 1);
        Check.due("the image stays", bags.goBack(1), 1);
    }

    private static void newPartyClears() {
        NineBags one = Check.partyOf("k1 1;c0 9;c0 9;l0 1;t0;", 2);
        Check.due("who should have it", one.share(0), 0);
        Check.feedAll(one, "k1 1;c0 9;c0 9;l1 0;t0;");
        Check.due("the other one looks", one.party(), 2);
        Check.due("who should have it now", one.share(0), 1);
        NineBags bags = Check.partyOf(Check.NINE, 3);
        Check.due("share ahead", bags.share(2), 2);
        Check.due("had ahead", bags.had(-1), 243);
        bags.give(0, 1);
        bags.see(0, 1, true);
        bags.write(0, 1);
        bags.seed(77);
        bags.keep(0);
        bags.give(1, 1);
        Check.feedAll(bags, "x");
        Check.due("a fault", bags.party(), -11);
        Check.feedAll(bags, "k5 6;c1 9;c0 8;t0;t0;l1 0;");
        Check.due("a new party", bags.party(), 2);
        Check.due("no fault now", bags.fault(), -1);
        Check.due("kinds", bags.told(0), 1);
        Check.due("children", bags.told(1), 2);
        Check.due("things", bags.told(2), 2);
        Check.due("letters", bags.told(3), 0);
        Check.due("all on the table", bags.told(4), 3);
        Check.due("nothing seen", bags.told(9), 0);
        Check.due("no book", bags.told(10), 0);
        Check.due("nothing to undo", bags.told(11), 0);
        Check.due("no undo", bags.undo(), NineBags.NOT);
        Check.due("no image", bags.goBack(0), NineBags.NOT);
        Check.due("looks anew", bags.child(0, 3), 0);
        Check.due("share anew: who has 0", bags.share(0), 0);
        Check.due("share anew: who has 1", bags.share(1), 1);
        Check.due("had anew", bags.had(-1), 4);
        Check.due("the seed stays", bags.seed(0), 77);
        Check.due("no party at all", bags.party(), 0);
        Check.due("no kinds", bags.told(0), 0);
        Check.due("no children", bags.told(1), 0);
        Check.due("no things", bags.told(2), 0);
        Check.due("had without children", bags.had(-1), 0);
    }
}
