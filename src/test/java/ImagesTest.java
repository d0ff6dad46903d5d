/** Promises 33 to 35: seed, keep, goBack. */
public final class ImagesTest {
    public static void main(String[] args) {
        seeds();
        images();
        withoutParty();
        Check.finish("ImagesTest");
    }

    private static void seeds() {
        NineBags bags = new NineBags();
        Check.due("0 at first", bags.seed(7), 0);
        Check.due("7", bags.seed(Integer.MAX_VALUE), 7);
        Check.due("below 0", bags.seed(-1), NineBags.OUTSIDE);
        Check.due("far below 0", bags.seed(Integer.MIN_VALUE), NineBags.OUTSIDE);
        Check.due("the greatest stays", bags.seed(0), Integer.MAX_VALUE);
    }

    private static void images() {
        NineBags bags = Check.partyOf(Check.NINE, 3);
        Check.due("not kept", bags.goBack(0), NineBags.NOT);
        Check.due("keep(2)", bags.keep(2), NineBags.UNKNOWN);
        Check.due("keep(-1)", bags.keep(-1), NineBags.UNKNOWN);
        Check.due("goBack(2)", bags.goBack(2), NineBags.UNKNOWN);
        Check.due("goBack(-1)", bags.goBack(-1), NineBags.UNKNOWN);
        bags.give(0, 2);
        bags.seed(42);
        Check.due("a refused image keeps what can be undone", bags.told(11), 1);
        Check.due("keep(1)", bags.keep(1), 1);
        Check.due("nothing can be undone", bags.undo(), NineBags.NOT);
        Check.due("0 is not kept by that", bags.goBack(0), NineBags.NOT);
        bags.give(1, 1);
        Check.due("refused goBack keeps what can be undone", bags.told(11), 1);
        bags.see(0, 1, true);
        bags.write(0, 0);
        bags.seed(43);
        bags.keep(0);
        bags.drift(9);
        Check.due("back to 1", bags.goBack(1), 1);
        Check.due("0 with 2", bags.thing(0, 1), 2);
        Check.due("1 on the table", bags.thing(1, 1), -1);
        Check.due("nothing can be undone", bags.told(11), 0);
        Check.due("no undo", bags.undo(), NineBags.NOT);
        Check.due("what is seen stays", bags.told(9), 1);
        Check.due("the book stays", bags.told(10), 1);
        Check.due("the seed of it", bags.seed(5), 42);
        Check.due("back to 0", bags.goBack(0), 1);
        Check.due("1 with 1", bags.thing(1, 1), 1);
        Check.due("the seed of that", bags.seed(5), 43);
        Check.due("again", bags.goBack(1), 1);
        Check.due("still there", bags.seed(5), 42);
        bags.take(0);
        Check.due("kept anew", bags.keep(1), 1);
        bags.give(0, 0);
        bags.goBack(1);
        Check.due("the new one", bags.thing(0, 1), -1);
    }

    private static void withoutParty() {
        NineBags bags = new NineBags();
        bags.seed(8);
        Check.due("keep", bags.keep(0), 1);
        bags.seed(9);
        Check.due("goBack", bags.goBack(0), 1);
        Check.due("the seed", bags.seed(8), 8);
        bags.party();
        Check.due("gone by party()", bags.goBack(0), NineBags.NOT);
    }
}
