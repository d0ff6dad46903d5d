/** Promises 27 to 32: see, had, watch, write, tear, judge. */
public final class SeenTest {
    public static void main(String[] args) {
        seeing();
        whoHad();
        whomToWatch();
        theBook();
        Check.finish("SeenTest");
    }

    private static void seeing() {
        NineBags bags = Check.partyOf(Check.NINE, 3);
        Check.due("one", bags.see(0, 1, true), 1);
        Check.due("the same again", bags.see(0, 1, true), 2);
        Check.due("0 does not look at 2", bags.see(0, 2, true), NineBags.NOT);
        Check.due("one twice", bags.see(1, 1, true), NineBags.UNKNOWN);
        Check.due("see(3, 0)", bags.see(3, 0, true), NineBags.UNKNOWN);
        Check.due("see(0, 3)", bags.see(0, 3, true), NineBags.UNKNOWN);
        Check.due("see(-1, 0)", bags.see(-1, 0, false), NineBags.UNKNOWN);
        Check.due("see(0, -1)", bags.see(0, -1, false), NineBags.UNKNOWN);
        for (int i = 3; i <= 6; i++) {
            Check.due("more", bags.see(2, 0, false), i);
        }
        Check.due("the seventh", bags.see(2, 0, false), NineBags.FULL);
        Check.due("the seventh, not looking", bags.see(0, 2, false), NineBags.NOT);
        Check.due("the seventh, unknown", bags.see(0, 4, false), NineBags.UNKNOWN);
        Check.due("six", bags.told(9), 6);
        Check.due("none is lost when it is full", bags.tear(), 6);
        Check.due("room again", bags.see(2, 0, false), 1);
    }

    private static void whoHad() {
        // A horse and two others of nothing: who cries at whom tells who has it.
        NineBags bags = Check.partyOf("k1 1;k1 1;c0 0,9;c0 0,9;c0 0,9;l0 1;l1 2;l2 0;t0;t1;t0;", 3);
        Check.due("all ways", bags.had(-1), 27);
        Check.due("nobody knows", bags.had(1), -1);
        bags.see(0, 1, false);
        Check.due("not 1", bags.had(-1), 18);
        Check.due("0 or 2", bags.had(1), -1);
        bags.see(1, 2, true);
        Check.due("2", bags.had(-1), 9);
        Check.due("2 has the horse", bags.had(1), 2);
        Check.due("the others are anywhere", bags.had(0), -1);
        bags.give(1, 0);
        Check.due("who has it now does not matter", bags.had(1), 2);
        bags.see(1, 2, false);
        Check.due("no way", bags.had(-1), 0);
        Check.due("no way: nobody", bags.had(1), -1);
        Check.due("had(3)", bags.had(3), NineBags.UNKNOWN);
        Check.due("had(-2)", bags.had(-2), NineBags.UNKNOWN);
        bags.tear();
        Check.due("all ways again", bags.had(-1), 27);
        NineBags noChildren = Check.partyOf("k1 1;t0;", 0);
        Check.due("no children", noChildren.had(-1), 0);
        Check.due("no children: who", noChildren.had(0), -1);
        Check.due("no party, no thing", new NineBags().had(0), NineBags.UNKNOWN);
        NineBags one = Check.partyOf("k1 1;c0 1;t0;", 1);
        Check.due("one child, one way", one.had(-1), 1);
        Check.due("one child has it", one.had(0), 0);
        NineBags noThings = Check.partyOf("k1 1;c0 1;c0 1;l0 1;", 2);
        Check.due("no things: one way", noThings.had(-1), 1);
        noThings.see(0, 1, true);
        Check.due("no things: nobody envies", noThings.had(-1), 0);
        NineBags all = Check.partyOf("k1 1;c0 1;c0 1;c0 1;c0 1;l0 1;t0;t0;t0;t0;t0;t0;t0;", 4);
        Check.due("four to the seven", all.had(-1), 16384);
    }

    private static void whomToWatch() {
        // The horse is with 0, 1, 2 or 3: each pair parts one from three, so the least pair is told.
        NineBags bags = Check.partyOf("k1 1;c0 9;c0 9;c0 9;c0 9;l3 2;l1 2;l2 1;t0;", 4);
        Check.due("the least of like ones", bags.watch(), 12);
        bags.see(1, 2, false);
        Check.due("2 has it not: only 1 is to be told", bags.watch(), 21);
        bags.see(2, 1, false);
        Check.due("0 or 3: no pair tells", bags.watch(), -1);
        bags.tear();
        bags.see(1, 2, true);
        bags.see(1, 2, false);
        Check.due("no ways", bags.watch(), -1);
        Check.due("no party", new NineBags().watch(), -1);
        Check.due("1 at 0", Check.partyOf("k1 1;c0 9;c0 9;l1 0;t0;", 2).watch(), 10);
        // Two things: 0 at 1 parts 3 to 6, 1 at 2, of whom it wants one kind alone, as well; 0 at 1 by amounts would part finer.
        NineBags two = Check.partyOf("k1 1;k1 1;c0 1,2;c0 0,2;c0 1,1;l1 2;l2 0;t0;t1;", 3);
        // 1 at 2: thing 1 with 2: 3 of 9. 2 at 0: 0 has more things than 2: (0,0) (0,1) (1,0): 3 of 9.
        Check.due("like parts", two.watch(), 12);
        NineBags finer = Check.partyOf("k1 1;k1 1;c0 1,2;c0 0,2;c0 1,1;l1 2;l0 2;t0;t1;", 3);
        // 0 at 2: thing 1 with 2, or thing 0 with 2 and 1 not with 0: (0,2) (1,2) (2,2) (2,1): 4 of 9.
        Check.due("the greatest part that is least", finer.watch(), 2);
    }

    private static void theBook() {
        NineBags bags = Check.partyOf(Check.NINE, 3);
        Check.due("an empty book", bags.judge(), -1);
        Check.due("table", bags.write(3, -1), 1);
        Check.due("1", bags.write(2, 1), 2);
        Check.due("the entry's number", bags.judge(), 1);
        bags.give(2, 1);
        Check.due("as written", bags.judge(), -1);
        Check.due("another one of the same", bags.write(2, 0), 3);
        Check.due("the third", bags.judge(), 2);
        bags.give(3, 1);
        Check.due("the first of two", bags.judge(), 0);
        Check.due("write(5, 0)", bags.write(5, 0), NineBags.UNKNOWN);
        Check.due("write(-1, 0)", bags.write(-1, 0), NineBags.UNKNOWN);
        Check.due("write(0, 3)", bags.write(0, 3), NineBags.UNKNOWN);
        Check.due("write(0, -2)", bags.write(0, -2), NineBags.UNKNOWN);
        for (int i = 4; i <= 15; i++) {
            Check.due("write", bags.write(0, 0), i);
        }
        Check.due("the sixteenth", bags.write(0, 0), NineBags.FULL);
        Check.due("the sixteenth, unknown", bags.write(0, 3), NineBags.UNKNOWN);
        Check.due("fifteen", bags.told(10), 15);
        bags.see(0, 1, true);
        bags.see(0, 1, true);
        Check.due("both", bags.tear(), 17);
        Check.due("nothing seen", bags.told(9), 0);
        Check.due("no book", bags.told(10), 0);
        Check.due("nothing wrong", bags.judge(), -1);
        Check.due("all ways", bags.had(-1), 243);
        Check.due("nothing to tear", bags.tear(), 0);
        Check.due("who has things stays", bags.thing(2, 1), 1);
    }
}
