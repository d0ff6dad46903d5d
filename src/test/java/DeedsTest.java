/** Promises 11 to 16: give, take, swap, draw, drift, undo. */
public final class DeedsTest {
    public static void main(String[] args) {
        givenAndTaken();
        swapped();
        drawn();
        drifted();
        undone();
        oldestAreLost();
        refusedIsNotUndone();
        Check.finish("DeedsTest");
    }

    private static void givenAndTaken() {
        NineBags bags = Check.partyOf(Check.NINE, 3);
        Check.due("from the table", bags.give(0, 1), -1);
        Check.due("from 1", bags.give(0, 2), 1);
        Check.due("to the same", bags.give(0, 2), 2);
        Check.due("2 has it", bags.child(2, 1), 1);
        Check.due("all three count", bags.told(11), 3);
        Check.due("take", bags.take(0), 2);
        Check.due("take again", bags.take(0), NineBags.NOT);
        Check.due("table", bags.told(4), 31);
        Check.due("give(5, 0)", bags.give(5, 0), NineBags.UNKNOWN);
        Check.due("give(-1, 0)", bags.give(-1, 0), NineBags.UNKNOWN);
        Check.due("give(0, 3)", bags.give(0, 3), NineBags.UNKNOWN);
        Check.due("give(0, -1)", bags.give(0, -1), NineBags.UNKNOWN);
        Check.due("take(5)", bags.take(5), NineBags.UNKNOWN);
        Check.due("take(-1)", bags.take(-1), NineBags.UNKNOWN);
    }

    private static void swapped() {
        NineBags bags = Check.partyOf("k1 1;k1 1;c0 5,9;c0 5,3;c0 4,4;t0;t1;t0;t1;", 3);
        bags.give(0, 0);
        bags.give(1, 1);
        Check.due("better for both", bags.swap(0, 1), 1);
        Check.due("0 has 1", bags.thing(1, 1), 0);
        Check.due("1 has 0", bags.thing(0, 1), 1);
        Check.due("worse for both, but done", bags.swap(1, 0), 0);
        Check.due("0 has 0 again", bags.thing(0, 1), 0);
        bags.give(3, 2);
        Check.due("better for one, alike for the other", bags.swap(0, 3), 1);
        Check.due("worse for one, alike for the other", bags.swap(0, 3), 0);
        Check.due("better the other way round", bags.swap(3, 0), 1);
        bags.give(2, 1);
        bags.take(1);
        Check.due("alike for both", bags.swap(0, 2), 0);
        Check.due("it is done", bags.thing(0, 1), 1);
        Check.due("with the table", bags.swap(0, 1), NineBags.NOT);
        Check.due("the table with", bags.swap(1, 0), NineBags.NOT);
        bags.give(1, 1);
        Check.due("both have one child", bags.swap(0, 1), NineBags.NOT);
        Check.due("one twice", bags.swap(0, 0), NineBags.UNKNOWN);
        Check.due("swap(0, 4)", bags.swap(0, 4), NineBags.UNKNOWN);
        Check.due("swap(4, 0)", bags.swap(4, 0), NineBags.UNKNOWN);
        Check.due("swap(-1, 0)", bags.swap(-1, 0), NineBags.UNKNOWN);
        Check.due("swap(0, -1)", bags.swap(0, -1), NineBags.UNKNOWN);
    }

    private static void drawn() {
        NineBags bags = Check.partyOf(Check.NINE, 3);
        bags.give(1, 1);
        Check.due("four lie", bags.draw(1), 4);
        Check.due("0 to 1", bags.thing(0, 1), 1);
        Check.due("1 stays", bags.thing(1, 1), 1);
        Check.due("2 to 2", bags.thing(2, 1), 2);
        Check.due("3 to 0", bags.thing(3, 1), 0);
        Check.due("4 to 1", bags.thing(4, 1), 1);
        Check.due("none lies", bags.draw(1), NineBags.NOT);
        Check.due("no such child, though none lies", bags.draw(3), NineBags.UNKNOWN);
        Check.due("draw(-1)", bags.draw(-1), NineBags.UNKNOWN);
        Check.due("without things", Check.partyOf("k1 1;c0 1;", 1).draw(0), NineBags.NOT);
    }

    private static void drifted() {
        NineBags bags = Check.partyOf(Check.NINE, 3);
        bags.seed(1);
        // 1103527590 / 65536 = 16838, by 5: 3; then 377401575 / 65536 = 5758, by 3: 1.
        Check.due("once, thing 3 to 1: 0 envies it by 1, 2 by 6", bags.drift(1), 7);
        Check.due("1 has 3", bags.thing(3, 1), 1);
        Check.due("the seed behind two draws", bags.seed(0), 377401575);
        Check.due("drift(0)", bags.drift(0), NineBags.OUTSIDE);
        Check.due("drift(61)", bags.drift(61), NineBags.OUTSIDE);
        Check.due("refused changes nothing", bags.seed(0), 0);
        NineBags sixty = Check.partyOf(Check.NINE, 3);
        sixty.seed(5);
        long seed = 5;
        int[] holders = {-1, -1, -1, -1, -1};
        for (int i = 0; i < 60; i++) {
            seed = (seed * 1103515245L + 12345L) % 2147483648L;
            int t = (int) (seed / 65536 % 5);
            seed = (seed * 1103515245L + 12345L) % 2147483648L;
            holders[t] = (int) (seed / 65536 % 3);
        }
        int answered = sixty.drift(60);
        Check.due("envy of all", answered, sixty.told(5));
        for (int t = 0; t < 5; t++) {
            Check.due("who has " + t, sixty.thing(t, 1), holders[t]);
        }
        Check.due("the seed", sixty.seed(0), seed);
        NineBags noChildren = Check.partyOf("k1 1;t0;", 0);
        Check.due("without children", noChildren.drift(60), 0);
        Check.due("no draws then", noChildren.seed(0), 0);
        Check.due("it can be undone", noChildren.undo(), 0);
        NineBags noThings = Check.partyOf("k1 1;c0 1;", 1);
        Check.due("without things", noThings.drift(1), 0);
        Check.due("no draws then either", noThings.seed(0), 0);
        NineBags noParty = new NineBags();
        Check.due("no party, out of bounds", noParty.drift(0), NineBags.OUTSIDE);
        Check.due("no party", noParty.drift(60), NineBags.NOT);
    }

    private static void undone() {
        NineBags bags = Check.partyOf(Check.NINE, 3);
        bags.give(0, 0);
        bags.give(2, 1);
        bags.swap(0, 2);
        bags.take(0);
        bags.draw(2);
        bags.drift(30);
        int seed = bags.seed(0);
        bags.seed(seed);
        Check.due("the drift", bags.undo(), 5);
        Check.due("as drawn", bags.child(2, 1), 17);
        Check.due("the seed stays", bags.seed(9), seed);
        Check.due("the draw", bags.undo(), 4);
        Check.due("table again", bags.told(4), 27);
        Check.due("the take", bags.undo(), 3);
        Check.due("1 has it", bags.thing(0, 1), 1);
        Check.due("the swap", bags.undo(), 2);
        Check.due("0 has it", bags.thing(0, 1), 0);
        Check.due("1 has the other", bags.thing(2, 1), 1);
        Check.due("a give", bags.undo(), 1);
        Check.due("the first give", bags.undo(), 0);
        Check.due("all on the table", bags.told(4), 31);
        Check.due("no more", bags.undo(), NineBags.NOT);
    }

    private static void oldestAreLost() {
        NineBags bags = Check.partyOf(Check.NINE, 3);
        for (int i = 0; i < 25; i++) {
            bags.give(i % 5, i / 5 % 3);
        }
        Check.due("20 are kept", bags.told(11), 20);
        for (int i = 19; i >= 0; i--) {
            Check.due("undo", bags.undo(), i);
        }
        Check.due("as behind the fifth", bags.child(0, 1), 31);
        Check.due("no more", bags.undo(), NineBags.NOT);
    }

    private static void refusedIsNotUndone() {
        NineBags bags = Check.partyOf(Check.NINE, 3);
        bags.give(9, 0);
        bags.take(0);
        bags.swap(0, 1);
        bags.draw(7);
        bags.drift(0);
        Check.due("nothing to undo", bags.told(11), 0);
        bags.swaps(-1);
        bags.settled(0);
        bags.share(-1);
        bags.choice(123, 0);
        bags.bestOrder(0);
        bags.spare(0);
        Check.due("what is tried is not done", bags.told(11), 0);
        Check.due("all on the table still", bags.told(4), 31);
    }
}
