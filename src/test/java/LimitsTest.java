import java.math.BigInteger;

/** Each sentence of the document's parts 2 and 3 that names a bound (empty, full, least, greatest, round and round). */
public final class LimitsTest {
    private static final int NONE = NineBags.NONE;
    private static final int NOT = NineBags.NOT;
    private static final String ALL_LOOK = "l0 1;l0 2;l0 3;l1 0;l1 2;l1 3;l2 0;l2 1;l2 3;l3 0;l3 1;l3 2;";
    private static final String FOUR = "k1 1;c0 1;c0 1;c0 1;c0 1;";
    private static final String SEVEN = "t0;t0;t0;t0;t0;t0;t0;";

    public static void main(String[] args) {
        numbersAndSets();
        bagsAndEnvy();
        given();
        drawnRoundAndRound();
        triedChangesNothing();
        swapsByNumber();
        settledAtLast();
        sharedEvenly();
        chosenRoundAndRound();
        bestOfAllOrders();
        sweetsParted();
        daysAndPence();
        spared();
        seenAndHad();
        watched();
        odds();
        theBook();
        byDraws();
        undone();
        images();
        Check.finish("LimitsTest");
    }

    private static NineBags give(NineBags bags, int... holders) {
        for (int t = 0; t < holders.length; t++) {
            if (holders[t] != NONE) {
                bags.give(t, holders[t]);
            }
        }
        return bags;
    }

    private static void numbersAndSets() {
        Check.sentence("An object is used for at most 512 calls");
        NineBags bags = Check.partyOf(Check.NINE, 3);
        int calls = Check.NINE.length() + 2;
        for (; calls < 509; calls++) {
            Check.due("call " + calls, bags.told(8), 530);
        }
        Check.due("the 510th call", bags.give(4, 2), NONE);
        Check.due("the 511th call", bags.told(4), 15);
        Check.due("the 512th call", bags.undo(), 0);

        Check.sentence("What has a number has it from 0 on, as it comes");
        NineBags turns = Check.partyOf("k10 1;k20 2;c1 3,4;c2 5,6;t1;t0;", 2);
        Check.due("the first KIND", turns.kind(0, 0), 10);
        Check.due("the second KIND", turns.kind(1, 0), 20);
        Check.due("the first CHILD", turns.child(0, 0), 1);
        Check.due("the second CHILD", turns.child(1, 0), 2);
        Check.due("the first THING", turns.thing(0, 0), 1);
        Check.due("the second THING", turns.thing(1, 0), 0);

        Check.sentence("A SET is a whole number, bit k for k");
        NineBags sets = Check.partyOf("k1 1;k1 1;k1 1;k1 1;k1 99;c16 1,1,1,1,1;c0 1,1,1,1,1;c0 1,1,1,1,1;c31 1,1,1,1,1;l3 0;t4;t0;t0;t0;t0;t0;t4;", 4);
        Check.due("the table", sets.told(4), 127);
        Check.due("looks of the last CHILD", sets.child(3, 3), 1);
        Check.due("LASTS", sets.lasts(99), 65);
        sets.give(6, 3);
        Check.due("the last BAG", sets.child(3, 1), 64);
        Check.due("ILL, the last CHILD", sets.told(7), 8);
        sets.give(0, 0);
        Check.due("the first BAG", sets.child(0, 1), 1);
        Check.due("ILL, the first CHILD too", sets.told(7), 9);
        Check.due("the table", sets.told(4), 62);
    }

    private static void bagsAndEnvy() {
        Check.sentence("A THING lies on the table (at first)");
        NineBags first = Check.partyOf(FOUR + SEVEN, 4);
        for (int t = 0; t < 7; t++) {
            Check.due("who has " + t, first.thing(t, 1), NONE);
        }

        Check.sentence("WORTH: 0 for KINDS that it must not have");
        NineBags worth = Check.partyOf("k1 1;k1 1;k1 1;k1 1;k1 1;c17 9,8,7,6,5;c31 9,8,7,6,5;t0;t1;t4;", 2);
        Check.due("an empty BAG", worth.child(0, 2), 0);
        give(worth, 0, 0, 0);
        Check.due("the first and the last are not counted", worth.child(0, 2), 8);
        give(worth, 1, 1, 1);
        Check.due("none is counted", worth.child(1, 2), 0);
        NineBags most = give(Check.partyOf("k1 1;c30 99;c0 0;l1 0;" + SEVEN, 2), 0, 0, 0, 0, 0, 0, 0);
        Check.due("the greatest WORTH", most.child(0, 2), 693);
        Check.due("worth nothing to the other", most.envy(1, 0), 0);

        Check.sentence("ENVY of C at D (if C looks at D): how much more; 0 else");
        NineBags envy = Check.partyOf("k1 1;k1 1;c0 5,6;c0 5,6;c0 5,6;l0 1;l1 0;l2 0;t0;t1;t0;", 3);
        Check.due("both have nothing", envy.envy(0, 1), 0);
        give(envy, 0, 1);
        Check.due("one more", envy.envy(0, 1), 1);
        Check.due("one less", envy.envy(1, 0), 0);
        give(envy, 0, NONE, 1);
        envy.take(1);
        Check.due("as much", envy.envy(0, 1), 0);
        Check.due("as much, the other way round", envy.envy(1, 0), 0);
        Check.due("against nothing", envy.envy(2, 0), 5);
        Check.due("2 does not look at 1", envy.envy(2, 1), 0);
        Check.due("nobody looks at 2", envy.envy(0, 2), 0);
        NineBags greatest = give(Check.partyOf("k1 1;c0 99;c0 99;l0 1;" + SEVEN, 2), 1, 1, 1, 1, 1, 1, 1);
        Check.due("the greatest", greatest.envy(0, 1), 693);

        Check.sentence("TEARS: how many pairs have ENVY above 0");
        NineBags tears = Check.partyOf("k1 1;k1 1;k1 1;k1 1;c0 0,1,1,1;c0 1,0,1,1;c0 1,1,0,1;c0 1,1,1,0;" + ALL_LOOK + "t0;t1;t2;t3;", 4);
        Check.due("none", tears.told(6), 0);
        tears.give(0, 0);
        Check.due("three at 0", tears.told(6), 3);
        give(tears, 0, 1, 2, 3);
        Check.due("all twelve", tears.told(6), 12);
        Check.due("ENVY of all", tears.told(5), 12);

        Check.sentence("ILL: CHILDREN (a SET) who have what they must not have");
        NineBags ill = Check.partyOf("k1 1;k1 1;c1 1,1;c2 1,1;c3 1,1;c0 1,1;t0;t1;t0;t1;t0;", 4);
        Check.due("none", ill.told(7), 0);
        give(ill, 0, 1, 2, 3, 3);
        Check.due("three of four", ill.told(7), 7);
        give(ill, 1, 0, 2, 2, 3);
        Check.due("one by two THINGS", ill.told(7), 4);
    }

    private static void given() {
        Check.sentence("GIVEN: a THING to a CHILD (from the table, or from another one): who had it (NONE)");
        NineBags bags = Check.partyOf(FOUR + SEVEN, 4);
        Check.due("from the table", bags.give(6, 3), NONE);
        Check.due("from 3", bags.give(6, 0), 3);
        Check.due("from 0", bags.give(6, 1), 0);
        Check.due("1 has it", bags.child(1, 1), 64);
        Check.due("nobody else has it", bags.child(0, 1) + bags.child(3, 1), 0);

        Check.sentence("TAKEN: it lies on the table: who had it");
        Check.due("from 1", bags.take(6), 1);
        Check.due("on the table", bags.thing(6, 1), NONE);
        Check.due("with the others", bags.told(4), 127);

        Check.sentence("both AGREE, if to neither its BAG is WORTH less by it, to one it is more");
        for (int gain = -2; gain <= 2; gain++) {
            for (int other = -2; other <= 2; other++) {
                String text = "k1 1;k1 1;c0 5," + (5 + gain) + ";c0 " + (5 + other) + ",5;t0;t1;";
                int agreed = gain >= 0 && other >= 0 && gain + other > 0 ? 1 : 0;
                NineBags two = give(Check.partyOf(text, 2), 0, 1);
                Check.due("SWAPS by " + gain + ", " + other, two.swaps(NONE), agreed);
                Check.due("swap by " + gain + ", " + other, two.swap(0, 1), agreed);
                Check.due("it is done, too", two.thing(0, 1) * 2 + two.thing(1, 1), 2);
            }
        }
    }

    private static void drawnRoundAndRound() {
        Check.sentence("the least THING first, to CHILDREN in turn from a told one on (round and round)");
        for (int children = 1; children <= 4; children++) {
            for (int from = 0; from < children; from++) {
                NineBags bags = Check.partyOf("k1 1;" + "c0 1;".repeat(children) + SEVEN, children);
                Check.due("draw(" + from + ")", bags.draw(from), 7);
                for (int t = 0; t < 7; t++) {
                    Check.due("draw(" + from + ") of " + children + ": " + t, bags.thing(t, 1), (from + t) % children);
                }
            }
        }
        NineBags some = give(Check.partyOf(FOUR + SEVEN, 4), 2, NONE, 2, NONE, NONE, 2, NONE);
        Check.due("four lie on the table", some.draw(3), 4);
        int[] want = {2, 3, 2, 0, 1, 2, 2};
        for (int t = 0; t < 7; t++) {
            Check.due("who has " + t, some.thing(t, 1), want[t]);
        }
        NineBags last = give(Check.partyOf(FOUR + SEVEN, 4), 0, 0, 0, 0, 0, 0);
        Check.due("one lies on the table", last.draw(3), 1);
        Check.due("the told one has it", last.thing(6, 1), 3);
    }

    // ---- tried

    private static NineBags partlyGiven() {
        NineBags bags = give(Check.partyOf(Check.NINE, 3), 0, NONE, 1, 2);
        bags.see(0, 1, true);
        bags.write(0, 2);
        bags.seed(17);
        return bags;
    }

    private static void triedChangesNothing() {
        Check.sentence("TRIED from now; nothing changes by it");
        String unspoilt = Whole.of(partlyGiven());
        for (int call = 0; call < 20; call++) {
            NineBags bags = partlyGiven();
            Check.due("call " + call + " is not refused", tried(bags, call) >= NONE);
            Check.due("all behind call " + call, Whole.of(bags), unspoilt);
        }
    }

    private static int tried(NineBags bags, int call) {
        switch (call) {
            case 0: return bags.swaps(NONE);
            case 1: return bags.swaps(0);
            case 2: return bags.settled(0);
            case 3: return bags.settled(1);
            case 4: return bags.share(NONE);
            case 5: return bags.share(1);
            case 6: return bags.choice(321, 1);
            case 7: return bags.choice(123, 0);
            case 8: return bags.bestOrder(0);
            case 9: return bags.bestOrder(1);
            case 10: return bags.sweets(9, 4);
            case 11: return bags.lasts(9);
            case 12: return bags.rises(9);
            case 13: return bags.spare(0);
            case 14: return bags.spare(2);
            case 15: return bags.dry();
            case 16: return bags.had(NONE);
            case 17: return bags.had(0);
            case 18: return bags.watch();
            default: return bags.judge();
        }
    }

    private static void swapsByNumber() {
        String text = "k1 1;k1 1;c0 1,9;c0 9,1;t0;t0;t0;t0;t0;t0;t1;";
        Check.sentence("SWAPS: pairs of THINGS of unlike CHILDREN");
        NineBags bags = Check.partyOf(text, 2);
        Check.due("all on the table", bags.swaps(NONE), 0);
        give(bags, 0, 0, 0, 0, 0, 0, 0);
        Check.due("all with one", bags.swaps(NONE), 0);
        bags.take(6);
        Check.due("one on the table", bags.swaps(NONE), 0);

        Check.sentence("(10 times the lesser THING and the other; rising) by which both AGREE: how many; the i-th; NONE");
        bags.give(6, 1);
        Check.due("how many", bags.swaps(NONE), 6);
        for (int i = 0; i < 6; i++) {
            Check.due("the " + i + "-th", bags.swaps(i), 10 * i + 6);
        }
        for (int i : new int[] {6, 7, 56, Integer.MAX_VALUE, -2, -3, Integer.MIN_VALUE}) {
            Check.due("swaps(" + i + ")", bags.swaps(i), NONE);
        }
        NineBags rising = give(Check.partyOf("k1 1;k1 1;c0 1,9;c0 9,1;t0;t1;t0;t1;", 2), 0, 1, 0, 1);
        int[] want = {1, 3, 12, 23, NONE};
        for (int i = 0; i < want.length; i++) {
            Check.due("rising: the " + i + "-th", rising.swaps(i), want[i]);
        }
    }

    /** The longest that could be found: 17. More than 28 there cannot be: each one of 7 things rises by 4 ranks at most. */
    private static void settledAtLast() {
        String text = "k1 1;k1 1;k1 1;k1 1;k1 1;c0 0,1,2,3,4;c0 3,3,3,1,0;c0 0,2,3,3,3;c0 4,0,3,0,1;" + ALL_LOOK + "t3;t1;t4;t2;t0;t4;t0;";
        Check.sentence("SETTLED: the first of SWAPS is done, over and over, 50 times at most, till there is none: how many; TEARS then");
        NineBags bags = give(Check.partyOf(text, 4), 3, 2, 1, 0, 0, 3, 0);
        int many = bags.settled(0);
        int tears = bags.settled(1);
        Check.due("how many", many, 17);
        for (int i = 0; i < 17; i++) {
            int pair = bags.swaps(0);
            Check.due("both AGREE", bags.swap(pair / 10, pair % 10), 1);
            Check.due("settled behind " + i, bags.settled(0), 16 - i);
            Check.due("TEARS are the same", bags.settled(1), tears);
        }
        Check.due("there is none", bags.swaps(NONE), 0);
        Check.due("TEARS then", bags.told(6), tears);
        Check.due("none from the first", bags.settled(0), 0);
    }

    private static void sharedEvenly() {
        for (int children = 1; children <= 4; children++) {
            for (int things = 0; things <= 7; things++) {
                String head = "k1 1;" + "c0 1;".repeat(children);
                Check.sentence("of like ones the first (THING by THING the lesser CHILD)");
                NineBags like = Check.partyOf(head + "t0;".repeat(things), children);
                Check.due("nobody looks", like.share(NONE), 0);
                firstEven(like, children, things);
                Check.sentence("no CHILD has more than one THING more than another one");
                StringBuilder wanting = new StringBuilder();
                for (int d = 1; d < children; d++) {
                    wanting.append("l0 ").append(d).append(';');
                }
                NineBags greedy = Check.partyOf(head + wanting + "t0;".repeat(things), children);
                firstEven(greedy, children, things);
                Check.due("who looks has most at the first", greedy.share(NONE), 0);
            }
        }
        Check.sentence("SHARE: NONE: no CHILDREN");
        NineBags none = Check.partyOf("k1 1;t0;", 0);
        Check.due("how much", none.share(NONE), NONE);
        Check.due("the CHILD", none.share(0), NONE);
        Check.sentence("ENVY of all together is least");
        NineBags both = Check.partyOf("k1 1;c0 4;c0 9;c0 5;c0 6;" + ALL_LOOK + "t0;", 4);
        Check.due("how much", both.share(NONE), 15);
        Check.due("who wants it most", both.share(0), 1);
    }

    /** The first children have one more than the others, each its things side by side. */
    private static void firstEven(NineBags bags, int children, int things) {
        int c = 0;
        int left = things / children + (things % children > 0 ? 1 : 0);
        for (int t = 0; t < things; t++) {
            if (left == 0) {
                c++;
                left = things / children + (c < things % children ? 1 : 0);
            }
            Check.due("share(" + t + ") of " + children + ", " + things, bags.share(t), c);
            left--;
        }
    }

    private static void chosenRoundAndRound() {
        Check.sentence("each in turn, round and round, picks");
        NineBags bags = Check.partyOf(FOUR + SEVEN, 4);
        int[] turns = {2, 0, 3, 1, 2, 0, 3};
        for (int t = 0; t < 7; t++) {
            Check.due("choice(3142, " + t + ")", bags.choice(3142, t), turns[t]);
        }
        NineBags alone = Check.partyOf("k1 1;c0 1;" + SEVEN, 1);
        Check.due("one has all", alone.choice(1, 6), 0);

        Check.sentence("the one for which it would give most (0 for what it must not have; of like ones the least)");
        NineBags picky = Check.partyOf("k1 1;k1 1;k1 1;c2 0,9,1;c2 0,9,0;t1;t0;t2;t1;", 2);
        int[] want = {1, 0, 0, 1};
        for (int t = 0; t < 4; t++) {
            Check.due("choice(12, " + t + ")", picky.choice(12, t), want[t]);
        }

        Check.sentence("of all THINGS on the table: the CHILD of a THING; NONE: it was not on the table");
        NineBags some = give(Check.partyOf(FOUR + SEVEN, 4), 1, NONE, NONE, 2, NONE, NONE, 3);
        int[] left = {NONE, 3, 2, NONE, 1, 0, NONE};
        for (int t = 0; t < 7; t++) {
            Check.due("choice(4321, " + t + ")", some.choice(4321, t), left[t]);
        }
        give(some, 0, 0, 0, 0, 0, 0, 0);
        for (int t = 0; t < 7; t++) {
            Check.due("none on the table: " + t, some.choice(1234, t), NONE);
        }
    }

    private static void bestOfAllOrders() {
        Check.sentence("BEST ORDER: by which least is envied by all together then; of like ones the least number");
        String last = "k1 1;k1 1;c0 2,9;c0 3,8;c0 6,6;c0 8,6;l0 1;l1 0;l1 3;t0;t1;t0;";
        NineBags bags = Check.partyOf(last, 4);
        Check.due("the greatest ORDER", bags.bestOrder(0), 4321);
        Check.due("how much", bags.bestOrder(1), 2);
        bestByTrying(last, 4, 1234, 4321);
        bestByTrying(FOUR + "l0 1;l1 2;l2 3;l3 0;t0;t0;", 4, 1234, 4321);
        bestByTrying(Check.NINE, 3, 123, 321);
        bestByTrying("k1 1;c0 5;c0 4;l0 1;l1 0;t0;", 2, 12, 21);
        bestByTrying("k1 1;c0 5;t0;", 1, 1, 1);
        Check.due("of like ones", Check.partyOf(FOUR + SEVEN, 4).bestOrder(0), 1234);

        Check.sentence("BEST ORDER: NONE: no CHILDREN");
        NineBags none = Check.partyOf("k1 1;t0;", 0);
        Check.due("ORDER", none.bestOrder(0), NONE);
        Check.due("how much", none.bestOrder(1), NONE);
    }

    private static void bestByTrying(String text, int children, int first, int last) {
        int best = NONE;
        int least = Integer.MAX_VALUE;
        for (int order = first; order <= last; order++) {
            NineBags bags = Check.partyOf(text, children);
            int things = bags.told(2);
            int[] holders = new int[things];
            for (int t = 0; t < things; t++) {
                holders[t] = bags.choice(order, t);
            }
            if (holders[0] >= 0 && give(bags, holders).told(5) < least) {
                least = bags.told(5);
                best = order;
            }
        }
        NineBags bags = Check.partyOf(text, children);
        Check.due("ORDER of '" + text + "'", bags.bestOrder(0), best);
        Check.due("how much of '" + text + "'", bags.bestOrder(1), least);
    }

    private static void sweetsParted() {
        Check.sentence("SWEETS: parted so that all CHILDREN have as much (long ones are not cut), as much as can be");
        for (int children = 1; children <= 4; children++) {
            for (int n = 0; n <= 14; n++) {
                NineBags bags = Check.partyOf("k1 1;" + "c0 1;".repeat(children), children);
                for (int m = 0; m <= n; m++) {
                    int each = n + m;
                    while (!canPart(children, n - m, m, each)) {
                        each--;
                    }
                    Check.due(children + ": sweets(" + n + ", " + m + ")", bags.sweets(n, m), n + m - children * each);
                }
            }
        }
        NineBags four = Check.partyOf(FOUR, 4);
        Check.due("999, none long", four.sweets(999, 0), 3);
        Check.due("999, all long", four.sweets(999, 999), 6);
        Check.due("999, one short", four.sweets(999, 998), 5);
        Check.due("none", four.sweets(0, 0), 0);

        Check.sentence("SWEETS: NONE: no CHILDREN");
        Check.due("0", new NineBags().sweets(0, 0), NONE);
        Check.due("999", Check.partyOf("k1 1;t0;", 0).sweets(999, 999), NONE);
    }

    private static boolean canPart(int children, int shortOnes, int longOnes, int each) {
        if (children == 0) {
            return true;
        }
        for (int some = 0; some <= longOnes && 2 * some <= each; some++) {
            int rest = shortOnes - (each - 2 * some);
            if (rest >= 0 && canPart(children - 1, rest, longOnes - some, each)) {
                return true;
            }
        }
        return false;
    }

    private static void daysAndPence() {
        Check.sentence("LASTS: THINGS (a SET) whose KINDS last d days (0 .. 99) or more");
        NineBags bags = Check.partyOf("k1 0;k1 1;k1 98;k1 99;t0;t1;t2;t3;", 0);
        int[][] want = {{0, 15}, {1, 14}, {2, 12}, {97, 12}, {98, 12}, {99, 8}};
        for (int[] pair : want) {
            Check.due("lasts(" + pair[0] + ")", bags.lasts(pair[0]), pair[1]);
        }
        Check.due("no THINGS", Check.partyOf("k1 99;", 0).lasts(0), 0);

        Check.sentence("COSTS: pence of all THINGS");
        Check.due("the most", Check.partyOf("k999 1;c0 1;" + SEVEN, 1).told(8), 6993);
        Check.due("no THINGS", Check.partyOf("k999 1;", 0).told(8), 0);
        Check.due("given or not", give(Check.partyOf("k7 1;c0 1;t0;t0;", 1), 0).told(8), 14);

        Check.sentence("RISES: what a party costs behind n years (0 .. 30), each a tenth more (cut), 999999 at most");
        NineBags most = Check.partyOf("k999 1;" + SEVEN, 0);
        BigInteger pence = BigInteger.valueOf(6993);
        for (int n = 0; n <= 30; n++) {
            Check.due("rises(" + n + ")", most.rises(n), Math.min(999999, pence.intValueExact()));
            pence = pence.multiply(BigInteger.valueOf(11)).divide(BigInteger.TEN);
        }
        int[][] small = {{0, 0}, {9, 9}, {10, 11}, {19, 20}, {20, 22}, {99, 108}};
        for (int[] pair : small) {
            Check.due("a year on " + pair[0], Check.partyOf("k" + pair[0] + " 1;t0;", 0).rises(1), pair[1]);
        }
        Check.due("cut each year: 19, 20, 22, 24", Check.partyOf("k19 1;t0;", 0).rises(3), 24);
    }

    private static void spared() {
        String kinds = "k1 1;".repeat(5);
        Check.sentence("SPARE: the KIND, none that the CHILD must not have; NONE");
        NineBags bags = Check.partyOf(kinds + "c31 9,9,9,9,9;c15 9,9,9,9,9;c30 9,9,9,9,9;c5 9,9,9,9,9;", 4);
        int[] want = {NONE, 4, 0, 1};
        for (int c = 0; c < 4; c++) {
            Check.due("spare(" + c + ")", bags.spare(c), want[c]);
        }
        Check.due("a SET of KINDS that there are not", Check.partyOf("k1 1;c30 9;", 1).spare(0), 0);

        Check.sentence("SPARE: of which one more THING given to it makes ENVY of all least; of like ones the least");
        NineBags looked = Check.partyOf(kinds + "c0 0,0,0,0,0;c0 5,4,3,4,3;l1 0;", 2);
        Check.due("by whom is looked at", looked.spare(0), 2);
        NineBags looks = give(Check.partyOf(kinds + "c0 5,4,6,6,9;c0 0,0,0,0,0;l0 1;t2;", 2), 1);
        Check.due("by whom looks: enough is enough", looks.spare(0), 2);
        Check.due("nobody looks", Check.partyOf(kinds + "c0 1,2,3,4,5;", 1).spare(0), 0);
    }

    // ---- what is seen

    private static void seenAndHad() {
        Check.sentence("HAD: ways to give all THINGS to CHILDREN: how many (0 without CHILDREN)");
        Check.due("without CHILDREN", Check.partyOf("k1 1;t0;", 0).had(NONE), 0);
        Check.due("without CHILDREN and THINGS", Check.partyOf("k1 1;", 0).had(NONE), 0);
        for (int children = 1; children <= 4; children++) {
            int ways = 1;
            for (int things = 0; things <= 7; things++) {
                String text = "k1 1;" + "c0 1;".repeat(children) + "t0;".repeat(things);
                Check.due(children + ", " + things, Check.partyOf(text, children).had(NONE), ways);
                ways *= children;
            }
        }

        Check.sentence("HAD: whether a THING is with the same CHILD in all: that CHILD (NONE else)");
        Check.due("one CHILD", Check.partyOf("k1 1;c0 1;t0;", 1).had(0), 0);
        NineBags bags = Check.partyOf("k1 1;k1 1;c0 0,9;c0 0,9;l0 1;l1 0;t0;t0;t1;", 2);
        Check.due("nothing is SEEN", bags.had(2), NONE);
        bags.see(0, 1, true);
        Check.due("the horse", bags.had(2), 1);
        Check.due("the others", bags.had(0), NONE);
        bags.see(1, 0, true);
        Check.due("no ways", bags.had(NONE), 0);
        Check.due("the horse, no ways", bags.had(2), NONE);

        Check.sentence("all that is SEEN is so (6 at most)");
        NineBags sixth = Check.partyOf(FOUR + "l0 1;l1 2;l2 3;l3 0;l0 2;l1 3;t0;", 4);
        int[][] pairs = {{0, 1}, {1, 2}, {3, 0}, {0, 2}, {1, 2}};
        for (int[] pair : pairs) {
            sixth.see(pair[0], pair[1], false);
        }
        Check.due("not 0, 1, 2", sixth.had(0), 3);
        Check.due("the sixth counts, too", sixth.see(2, 3, false), 6);
        Check.due("not 3 either", sixth.had(NONE), 0);

        Check.sentence("Promise 31: Nothing SEEN, THE BOOK is empty: how much both had");
        for (int i = 0; i < 15; i++) {
            sixth.write(0, 0);
        }
        Check.due("both are full", sixth.tear(), 21);
        Check.due("nothing SEEN", sixth.told(9), 0);
        Check.due("all ways", sixth.had(NONE), 4);
        Check.due("no entries", sixth.told(10), 0);
        Check.due("both are empty", sixth.tear(), 0);
    }

    private static void watched() {
        Check.sentence("WATCH: of like ones the least");
        Check.due("the first pair", Check.partyOf(FOUR + ALL_LOOK + "t0;", 4).watch(), 1);
        Check.due("10 before 23", Check.partyOf(FOUR + "l2 3;l1 0;t0;", 4).watch(), 10);
        Check.due("the last pair", Check.partyOf(FOUR + "l3 2;t0;", 4).watch(), 32);

        Check.sentence("WATCH: the greatest part that is alike is least");
        NineBags parts = Check.partyOf("k1 1;k1 1;c0 1,1;c0 0,1;c0 1,1;l1 0;l0 2;t0;t1;", 3);
        // 1 at 0: thing 1 is with 0: 3 of 9. 0 at 2: 2 has more things than 0: (1,2) (2,1) (2,2): 3 of 9.
        Check.due("like parts: the least", parts.watch(), 2);
        // 1 at 2: thing 1 is with 2: 3 of 9. 0 at 2: (0,2) (1,2) (2,2) (2,1): 4 of 9, as thing 1 is worth more to 0.
        NineBags fine = Check.partyOf("k1 1;k1 1;c0 1,2;c0 0,2;c0 1,1;l1 2;l0 2;t0;t1;", 3);
        Check.due("4 of 9, not the coarser one behind it", fine.watch(), 2);
        // 0 at 1: thing 0 is with 1: 3 of 9. 2 at 1: (1,1) (1,0) (0,1) (2,1): 4 of 9, as thing 1 is worth more to 2.
        NineBags finer = Check.partyOf("k1 1;k1 1;c0 1,0;c0 0,0;c0 1,2;l0 1;l2 1;t0;t1;", 3);
        Check.due("4 of 9, though the pair is the greater one", finer.watch(), 21);

        Check.sentence("WATCH: NONE: none parts them");
        Check.due("no pair looks", Check.partyOf(FOUR + "t0;", 4).watch(), NONE);
        Check.due("no THINGS", Check.partyOf(FOUR + ALL_LOOK, 4).watch(), NONE);
        Check.due("no CHILDREN", Check.partyOf("k1 1;t0;", 0).watch(), NONE);
        Check.due("all is worth nothing", Check.partyOf("k1 1;c0 0;c1 9;l0 1;l1 0;t0;", 2).watch(), NONE);
        NineBags one = Check.partyOf("k1 1;c0 1;c0 1;l0 1;l1 0;t0;", 2);
        one.see(0, 1, true);
        Check.due("one way is left", one.watch(), NONE);
        one.see(0, 1, false);
        Check.due("no way is left", one.watch(), NONE);
    }

    private static void odds() {
        Check.sentence("each pair with ENVY e cries by e of a hundred (100 at most)");
        int[][] want = {{0, 1000000000}, {1, 990000000}, {50, 500000000}, {99, 10000000}};
        for (int[] pair : want) {
            NineBags bags = give(Check.partyOf("k1 1;c0 " + pair[0] + ";c0 1;l0 1;t0;", 2), 1);
            Check.due("ENVY " + pair[0], bags.dry(), pair[1]);
        }
        NineBags more = Check.partyOf("k1 1;k1 1;c0 99,1;c0 1,1;l0 1;t0;t1;t1;t0;", 2);
        Check.due("ENVY 100", give(more, 1, 1).dry(), 0);
        Check.due("ENVY 101", give(more, 1, 1, 1).dry(), 0);
        Check.due("ENVY 200", give(more, 1, 1, 1, 1).dry(), 0);
        NineBags greatest = Check.partyOf("k1 1;c0 99;c0 99;l0 1;" + SEVEN, 2);
        Check.due("ENVY 693", give(greatest, 1, 1, 1, 1, 1, 1, 1).dry(), 0);

        Check.sentence("a BILLION times (100 less e) / 100 each (cut; C by C, D by D)");
        String text = "k1 1;k1 1;c0 14,28;c0 4,21;c0 31,8;c0 28,10;" + ALL_LOOK + "t0;t1;t1;t1;";
        NineBags bags = give(Check.partyOf(text, 4), 0, 3, 2, 3);
        Check.due("in turn", bags.dry(), 142994435);
        Check.due("in turn, by what each envies", oddsBy(bags, true), 142994435);
        Check.due("the other way round it is otherwise", oddsBy(bags, false), 142994436);
        Check.due("nobody looks", Check.partyOf(FOUR + SEVEN, 4).dry(), 1000000000);
    }

    private static long oddsBy(NineBags bags, boolean childByChild) {
        long odds = 1000000000;
        for (int i = 0; i < 16; i++) {
            int c = childByChild ? i / 4 : i % 4;
            int d = childByChild ? i % 4 : i / 4;
            odds = c == d ? odds : odds * (100 - bags.envy(c, d)) / 100;
        }
        return odds;
    }

    private static void theBook() {
        Check.sentence("THE BOOK (15 at most) tells who has THINGS (NONE: the table)");
        NineBags bags = Check.partyOf(FOUR + SEVEN, 4);
        for (int i = 1; i <= 14; i++) {
            Check.due("the table", bags.write(i % 7, NONE), i);
        }
        Check.due("all is so", bags.judge(), NONE);
        Check.due("the fifteenth", bags.write(6, 3), 15);

        Check.sentence("WRONG: the first that is otherwise now; NONE");
        Check.due("the fifteenth is otherwise", bags.judge(), 14);
        bags.give(6, 3);
        Check.due("the sixth is otherwise now", bags.judge(), 5);
        bags.give(1, 0);
        Check.due("the first is otherwise now", bags.judge(), 0);
        bags.tear();
        Check.due("an empty BOOK", bags.judge(), NONE);
        bags.write(1, 1);
        Check.due("another CHILD has it", bags.judge(), 0);
        bags.give(1, 1);
        Check.due("it is so", bags.judge(), NONE);
    }

    // ---- draws, what is undone, images

    private static void byDraws() {
        BigInteger times = BigInteger.valueOf(1103515245);
        BigInteger more = BigInteger.valueOf(12345);
        BigInteger bound = BigInteger.ONE.shiftLeft(31);
        int[] seeds = {0, 1, 2, 65535, 65536, 1000000000, 2147483646, 2147483647};
        for (int seed : seeds) {
            NineBags bags = Check.partyOf("k1 1;c0 1;c0 1;c0 1;" + SEVEN, 3);
            Check.sentence("THE SEED (0 at first)");
            Check.due("seed(" + seed + ")", bags.seed(seed), 0);
            Check.sentence("each DRAW it becomes it times 1103515245 and 12345, left over by 2 to the 31");
            BigInteger first = BigInteger.valueOf(seed).multiply(times).add(more).mod(bound);
            BigInteger second = first.multiply(times).add(more).mod(bound);
            Check.due("drift(1) from " + seed, bags.drift(1), 0);
            Check.sentence("the DRAW of n is it / 65536, left over by n: a DRAW of THINGS, a DRAW of CHILDREN: GIVEN so");
            int t = first.intValueExact() / 65536 % 7;
            Check.due("who has " + t, bags.thing(t, 1), second.intValueExact() / 65536 % 3);
            Check.due("the others lie on the table", bags.told(4), 127 - (1 << t));
            Check.due("THE SEED behind it", bags.seed(0), second.intValueExact());
        }
        Check.sentence("n times, if there are CHILDREN and THINGS");
        for (String text : new String[] {"k1 1;", "k1 1;t0;", "k1 1;c0 1;"}) {
            NineBags bags = new NineBags();
            Check.feedAll(bags, text);
            bags.party();
            bags.seed(77);
            Check.due("drift(60) of '" + text + "'", bags.drift(60), 0);
            Check.due("THE SEED of '" + text + "'", bags.seed(0), 77);
        }
        NineBags one = Check.partyOf("k1 1;c0 1;t0;", 1);
        one.drift(1);
        Check.due("one CHILD, one THING", one.thing(0, 1), 0);
        Check.due("two DRAWS of 1", one.seed(0) != 0);
    }

    private static void undone() {
        Check.sentence("UNDONE: 20 at most are kept, the oldest are lost");
        for (int deeds : new int[] {1, 19, 20, 21, 39, 40, 41, 60}) {
            NineBags bags = Check.partyOf(FOUR + SEVEN, 4);
            for (int i = 0; i < deeds; i++) {
                bags.give(i % 7, i % 4);
            }
            int kept = Math.min(20, deeds);
            Check.due("kept of " + deeds, bags.told(11), kept);
            for (int i = 1; i <= kept; i++) {
                Check.due("undo " + i + " of " + deeds, bags.undo(), kept - i);
                // What was given last ahead of it: seven things, each by every seventh deed.
                int latest = deeds - i;
                int ahead = latest - 7;
                Check.due("who had it ahead of deed " + latest, bags.thing(latest % 7, 1), ahead < 0 ? NONE : ahead % 4);
            }
            Check.due("no more of " + deeds, bags.undo(), NOT);
        }

        Check.sentence("the latest of give(), take(), swap(), draw(), drift() that was not refused");
        NineBags bags = Check.partyOf("k1 1;c0 1;c0 1;t0;t0;t0;", 2);
        int[] answers = {bags.give(0, 0), bags.give(1, 1), bags.swap(0, 1), bags.take(0), bags.draw(0), bags.drift(1)};
        Check.due("six deeds", bags.told(11), answers.length);
        bags.take(7);
        bags.give(0, 2);
        bags.swap(0, 0);
        bags.draw(0);
        bags.drift(61);
        bags.see(0, 1, true);
        bags.write(0, 0);
        bags.seed(5);
        bags.tear();
        bags.feed('x');
        bags.party();
        Check.due("six deeds still", bags.told(11), 6);

        Check.sentence("who has THINGS is as ahead of it; THE SEED stays");
        Check.due("the drift", bags.undo(), 5);
        Check.due("as drawn", bags.told(4), 0);
        Check.due("THE SEED", bags.seed(5), 5);
        Check.due("the draw", bags.undo(), 4);
        Check.due("two on the table", bags.told(4), 5);
        Check.due("the take", bags.undo(), 3);
        Check.due("1 has it", bags.thing(0, 1), 1);
        Check.due("the swap", bags.undo(), 2);
        Check.due("0 has it", bags.thing(0, 1), 0);
        Check.due("the second give", bags.undo(), 1);
        Check.due("it lies on the table", bags.thing(1, 1), NONE);
        Check.due("the first give", bags.undo(), 0);
        Check.due("all on the table", bags.told(4), 7);

        Check.sentence("20 at most are kept (one that is undone makes room)");
        NineBags room = Check.partyOf(FOUR + SEVEN, 4);
        for (int i = 0; i < 25; i++) {
            room.give(i % 7, 0);
        }
        room.undo();
        Check.due("19", room.told(11), 19);
        room.give(0, 3);
        Check.due("20 again", room.told(11), 20);
    }

    private static void images() {
        Check.sentence("IMAGES 0, 1 keep who has THINGS, THE SEED");
        NineBags bags = Check.partyOf(FOUR + SEVEN, 4);
        give(bags, 0, 1, 2, 3, 0, 1, 2);
        bags.seed(2147483647);
        Check.due("keep(0)", bags.keep(0), 1);
        give(bags, 3, 3, 3, 3, 3, 3);
        bags.take(6);
        bags.seed(1);
        Check.due("keep(1)", bags.keep(1), 1);
        bags.drift(60);
        Check.due("goBack(0)", bags.goBack(0), 1);
        int[] first = {0, 1, 2, 3, 0, 1, 2};
        for (int t = 0; t < 7; t++) {
            Check.due("IMAGE 0: who has " + t, bags.thing(t, 1), first[t]);
        }
        Check.due("IMAGE 0: THE SEED", bags.seed(0), 2147483647);
        Check.due("goBack(1)", bags.goBack(1), 1);
        Check.due("IMAGE 1: the BAG of 3", bags.child(3, 1), 63);
        Check.due("IMAGE 1: the table", bags.told(4), 64);
        Check.due("IMAGE 1: THE SEED", bags.seed(0), 1);

        Check.sentence("Promise 34: IMAGE i becomes what is so (nothing can be undone then)");
        bags.give(6, 0);
        Check.due("one can be undone", bags.told(11), 1);
        Check.due("keep(0) again", bags.keep(0), 1);
        Check.due("none can be undone", bags.told(11), 0);
        Check.due("undo()", bags.undo(), NOT);
        bags.give(6, 1);

        Check.sentence("Promise 35: What is so becomes IMAGE i (nothing can be undone then)");
        Check.due("one can be undone", bags.told(11), 1);
        Check.due("goBack(0)", bags.goBack(0), 1);
        Check.due("none can be undone", bags.told(11), 0);
        Check.due("undo()", bags.undo(), NOT);
        Check.due("as kept the second time", bags.thing(6, 1), 0);
        Check.due("goBack(1), as ahead", bags.goBack(1), 1);
        Check.due("who has 6", bags.thing(6, 1), NONE);
    }
}
