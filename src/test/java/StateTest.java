/** Promises 5 to 10: told, kind, child, gives, thing, envy. */
public final class StateTest {
    public static void main(String[] args) {
        tellings();
        kindsAndThings();
        children();
        envies();
        allLookAtAll();
        wrongInputs();
        Check.finish("StateTest");
    }

    private static void tellings() {
        NineBags bags = Check.partyOf(Check.NINE, 3);
        Check.due("kinds", bags.told(0), 3);
        Check.due("children", bags.told(1), 3);
        Check.due("things", bags.told(2), 5);
        bags.feed('k');
        bags.feed('k');
        Check.due("letters", bags.told(3), 2);
        Check.due("table", bags.told(4), 31);
        bags.give(3, 1);
        bags.give(0, 0);
        Check.due("table with two given", bags.told(4), 22);
        // 1 must not have thing 3: it is worth 0 to it, and 7 is its envy at 0; 2 envies 0 by 2 and 1 by 6.
        Check.due("envy of all", bags.told(5), 15);
        Check.due("tears", bags.told(6), 3);
        Check.due("ill", bags.told(7), 2);
        bags.take(3);
        Check.due("nobody ill", bags.told(7), 0);
        NineBags first = Check.partyOf("k1 1;c1 5;c0 5;c1 5;t0;t0;t0;", 3);
        first.give(0, 0);
        Check.due("ill by thing 0", first.told(7), 1);
        first.draw(1);
        Check.due("ill by thing 2 too", first.told(7), 5);
        Check.due("costs of all, on the table too", bags.told(8), 530);
        bags.see(0, 1, true);
        bags.see(0, 1, true);
        Check.due("seen", bags.told(9), 2);
        bags.write(0, 0);
        Check.due("book", bags.told(10), 1);
        Check.due("can be undone", bags.told(11), 3);
        Check.due("told(12)", bags.told(12), NineBags.OUTSIDE);
        Check.due("told(-1)", bags.told(-1), NineBags.OUTSIDE);
    }

    private static void kindsAndThings() {
        NineBags bags = Check.partyOf("k999 99;k0 0;k5 1;t2;t0;", 0);
        Check.due("P", bags.kind(0, 0), 999);
        Check.due("L", bags.kind(0, 1), 99);
        Check.due("P of 2", bags.kind(2, 0), 5);
        Check.due("L of 2", bags.kind(2, 1), 1);
        Check.due("P of 1", bags.kind(1, 0), 0);
        Check.due("kind of 0", bags.thing(0, 0), 2);
        Check.due("kind of 1", bags.thing(1, 0), 0);
        Check.due("nobody has 0", bags.thing(0, 1), -1);
        NineBags nine = Check.partyOf(Check.NINE, 3);
        nine.give(4, 2);
        Check.due("who has 4", nine.thing(4, 1), 2);
        Check.due("who has 3", nine.thing(3, 1), -1);
    }

    private static void children() {
        NineBags bags = Check.partyOf(Check.NINE, 3);
        Check.due("A", bags.child(1, 0), 4);
        Check.due("empty bag", bags.child(1, 1), 0);
        Check.due("empty worth", bags.child(1, 2), 0);
        Check.due("looks of 0", bags.child(0, 3), 2);
        Check.due("looks of 2", bags.child(2, 3), 3);
        bags.give(0, 1);
        bags.give(2, 1);
        bags.give(4, 1);
        Check.due("bag", bags.child(1, 1), 21);
        Check.due("worth without what is banned", bags.child(1, 2), 10);
        Check.due("what it would give for the banned one", bags.gives(1, 2), 8);
        Check.due("what 2 would give", bags.gives(2, 2), 6);
        NineBags odd = Check.partyOf("k1 1;c31 99;c30 98;", 2);
        Check.due("A may name kinds that there are not", odd.child(0, 0), 31);
        Check.due("A of 1", odd.child(1, 0), 30);
    }

    private static void envies() {
        NineBags bags = Check.partyOf(Check.NINE, 3);
        bags.give(2, 0);
        Check.due("1 at 0", bags.envy(1, 0), 3);
        Check.due("0 at 1, who has nothing", bags.envy(0, 1), 0);
        Check.due("2 at 0", bags.envy(2, 0), 2);
        bags.give(3, 2);
        Check.due("2 has more now", bags.envy(2, 0), 0);
        Check.due("0 does not look at 2", bags.envy(0, 2), 0);
        Check.due("1 does not look at 2", bags.envy(1, 2), 0);
        bags.give(4, 0);
        Check.due("1 does not want what is banned", bags.envy(1, 0), 3);
        Check.due("2 at 0 with two", bags.envy(2, 0), 2);
    }

    private static void allLookAtAll() {
        String head = "k1 1;c0 1;c0 10;c0 20;c0 30;";
        String looks = "l0 1;l0 2;l0 3;l1 0;l1 2;l1 3;l2 0;l2 1;l2 3;l3 0;l3 1;l3 2;";
        NineBags bags = Check.partyOf(head + looks + "t0;t0;", 4);
        bags.give(0, 2);
        Check.due("three envy 2", bags.told(5), 41);
        Check.due("three cry", bags.told(6), 3);
        Check.due("the last pair", bags.envy(3, 2), 30);
        bags.give(1, 0);
        Check.due("1 envies two, 3 too", bags.told(5), 80);
        Check.due("four cry", bags.told(6), 4);
        Check.feedAll(bags, head + "l2 1;t0;");
        Check.due("a party in which one looks", bags.party(), 4);
        bags.give(0, 1);
        Check.due("it alone envies", bags.told(5), 20);
        Check.due("it alone cries", bags.told(6), 1);
        Check.feedAll(bags, head + "t0;");
        Check.due("a party in which none looks", bags.party(), 4);
        bags.give(0, 1);
        Check.due("none envies", bags.told(5), 0);
        Check.due("none cries", bags.told(6), 0);
    }

    private static void wrongInputs() {
        NineBags bags = Check.partyOf(Check.NINE, 3);
        Check.due("kind(3)", bags.kind(3, 0), NineBags.UNKNOWN);
        Check.due("kind(-1)", bags.kind(-1, 9), NineBags.UNKNOWN);
        Check.due("kind what", bags.kind(2, 2), NineBags.OUTSIDE);
        Check.due("kind what -1", bags.kind(2, -1), NineBags.OUTSIDE);
        Check.due("child(3)", bags.child(3, 9), NineBags.UNKNOWN);
        Check.due("child(-1)", bags.child(-1, 0), NineBags.UNKNOWN);
        Check.due("child what", bags.child(2, 4), NineBags.OUTSIDE);
        Check.due("child what -1", bags.child(2, -1), NineBags.OUTSIDE);
        Check.due("gives(3, 0)", bags.gives(3, 0), NineBags.UNKNOWN);
        Check.due("gives(0, 3)", bags.gives(0, 3), NineBags.UNKNOWN);
        Check.due("gives(-1, 0)", bags.gives(-1, 0), NineBags.UNKNOWN);
        Check.due("gives(0, -1)", bags.gives(0, -1), NineBags.UNKNOWN);
        Check.due("thing(5)", bags.thing(5, 7), NineBags.UNKNOWN);
        Check.due("thing(-1)", bags.thing(-1, 0), NineBags.UNKNOWN);
        Check.due("thing what", bags.thing(4, 2), NineBags.OUTSIDE);
        Check.due("thing what -1", bags.thing(4, -1), NineBags.OUTSIDE);
        Check.due("envy(1, 1)", bags.envy(1, 1), NineBags.UNKNOWN);
        Check.due("envy(3, 0)", bags.envy(3, 0), NineBags.UNKNOWN);
        Check.due("envy(0, 3)", bags.envy(0, 3), NineBags.UNKNOWN);
        Check.due("envy(-1, 0)", bags.envy(-1, 0), NineBags.UNKNOWN);
    }
}
