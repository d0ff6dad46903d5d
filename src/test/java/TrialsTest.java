/** Promises 17 to 26: swaps, settled, share, choice, bestOrder, sweets, lasts, rises, spare, dry. */
public final class TrialsTest {
    public static void main(String[] args) {
        swapsAndSettled();
        shared();
        chosen();
        bestOrders();
        sweetsParted();
        lastingAndRising();
        spared();
        odds();
        Check.finish("TrialsTest");
    }

    private static void swapsAndSettled() {
        NineBags bags = Check.partyOf("k1 1;k1 1;c0 1,9;c0 9,1;c0 5,5;l0 1;l1 0;l2 0;t0;t1;t0;t1;", 3);
        Check.due("none on the table", bags.swaps(-1), 0);
        Check.due("no first", bags.swaps(0), -1);
        bags.give(0, 0);
        bags.give(2, 0);
        bags.give(1, 1);
        bags.give(3, 2);
        // 0 wants kind 1, 1 wants kind 0, 2 does not mind: 0-1, 0-3, 1-2, 2-3.
        Check.due("how many", bags.swaps(-1), 4);
        Check.due("first", bags.swaps(0), 1);
        Check.due("second", bags.swaps(1), 3);
        Check.due("third", bags.swaps(2), 12);
        Check.due("fourth", bags.swaps(3), 23);
        Check.due("no fifth", bags.swaps(4), -1);
        Check.due("swaps(-2)", bags.swaps(-2), -1);
        Check.due("swaps(least)", bags.swaps(Integer.MIN_VALUE), -1);
        // 0-1: 0 has 1 2, 1 has 0, 2 has 3; then 2-3: 0 has 1 3, 1 has 0, 2 has 2; then none.
        Check.due("settled behind", bags.settled(0), 2);
        Check.due("2 envies 0 then", bags.settled(1), 1);
        Check.due("nothing changes", bags.thing(0, 1), 0);
        Check.due("settled(2)", bags.settled(2), NineBags.OUTSIDE);
        Check.due("settled(-1)", bags.settled(-1), NineBags.OUTSIDE);
        Check.due("settled without a party", new NineBags().settled(1), 0);
        Check.due("swaps without a party", new NineBags().swaps(0), -1);
        NineBags ban = Check.partyOf("k1 1;k1 1;c1 9,1;c0 1,1;t0;t1;", 2);
        ban.give(0, 0);
        ban.give(1, 1);
        Check.due("what it must not have is worth nothing", ban.swaps(0), 1);
        ban.swap(0, 1);
        Check.due("not back", ban.swaps(-1), 0);
    }

    private static void shared() {
        NineBags bags = Check.partyOf(Check.NINE, 3);
        Check.due("how much", bags.share(-1), 0);
        int[] want = {0, 1, 2, 0, 2};
        for (int t = 0; t < 5; t++) {
            Check.due("share(" + t + ")", bags.share(t), want[t]);
        }
        bags.give(0, 2);
        Check.due("who has things does not matter", bags.share(0), 0);
        Check.due("share(5)", bags.share(5), NineBags.UNKNOWN);
        Check.due("share(-2)", bags.share(-2), NineBags.UNKNOWN);
        NineBags noChildren = Check.partyOf("k1 1;t0;", 0);
        Check.due("no children: how much", noChildren.share(-1), -1);
        Check.due("no children: who", noChildren.share(0), -1);
        Check.due("no children: no such thing", noChildren.share(1), NineBags.UNKNOWN);
        NineBags noThings = Check.partyOf("k1 1;c0 1;", 1);
        Check.due("no things", noThings.share(-1), 0);
        // Were it not for evenness, child 1, who wants all, would get all.
        NineBags even = Check.partyOf("k1 1;c0 0;c0 9;l1 0;t0;t0;t0;t0;", 2);
        Check.due("even: how much", even.share(-1), 0);
        int[] evenWant = {0, 0, 1, 1};
        for (int t = 0; t < 4; t++) {
            Check.due("even: share(" + t + ")", even.share(t), evenWant[t]);
        }
        NineBags greedy = Check.partyOf("k1 1;c0 9;c0 0;l0 1;t0;t0;t0;t0;", 2);
        for (int t = 0; t < 4; t++) {
            Check.due("not all to 0: share(" + t + ")", greedy.share(t), evenWant[t]);
        }
        NineBags odd = Check.partyOf("k1 1;c0 0;c0 9;l1 0;t0;t0;t0;", 2);
        Check.due("odd: how much", odd.share(-1), 0);
        Check.due("odd: the first to 0", odd.share(0), 0);
        Check.due("odd: the second to 1", odd.share(1), 1);
        NineBags both = Check.partyOf("k1 1;c0 4;c0 9;l0 1;l1 0;t0;", 2);
        Check.due("one must envy: least", both.share(-1), 4);
        Check.due("one must envy: who has it", both.share(0), 1);
    }

    private static void chosen() {
        NineBags bags = Check.partyOf(Check.NINE, 3);
        // 0 takes 2 (9), 1 takes 0 (7; what it must not have counts 0), 2 takes 3 (6), 0 takes 1 (5), 1 takes 4 (0).
        int[] want = {1, 0, 0, 2, 1};
        for (int t = 0; t < 5; t++) {
            Check.due("choice(123, " + t + ")", bags.choice(123, t), want[t]);
        }
        int[] other = {1, 1, 0, 2, 2};
        for (int t = 0; t < 5; t++) {
            Check.due("choice(321, " + t + ")", bags.choice(321, t), other[t]);
        }
        bags.give(2, 1);
        Check.due("not on the table", bags.choice(123, 2), -1);
        Check.due("0 takes the least of its best then", bags.choice(123, 0), 0);
        Check.due("nothing changes", bags.told(4), 27);
        int[] wrong = {0, 12, 1234, 124, 122, 111, 120, 23, -123, 1230, 1123, Integer.MAX_VALUE, Integer.MIN_VALUE};
        for (int order : wrong) {
            Check.due("choice(" + order + ", 0)", bags.choice(order, 0), NineBags.OUTSIDE);
        }
        Check.due("no such thing, no such order", bags.choice(0, 5), NineBags.UNKNOWN);
        Check.due("choice(123, -1)", bags.choice(123, -1), NineBags.UNKNOWN);
        Check.due("no such order, not on the table", bags.choice(12, 2), NineBags.OUTSIDE);
        NineBags four = Check.partyOf("k1 1;c0 1;c0 1;c0 1;c0 1;t0;t0;t0;t0;t0;", 4);
        int[] fourWant = {3, 0, 2, 1, 3};
        for (int t = 0; t < 5; t++) {
            Check.due("choice(4132, " + t + ")", four.choice(4132, t), fourWant[t]);
        }
        NineBags noChildren = Check.partyOf("k1 1;t0;", 0);
        Check.due("no children, order 0", noChildren.choice(0, 0), NineBags.OUTSIDE);
        Check.due("no children, order 1", noChildren.choice(1, 0), NineBags.OUTSIDE);
        Check.due("one child", Check.partyOf("k1 1;c0 1;t0;", 1).choice(1, 0), 0);
    }

    private static void bestOrders() {
        NineBags bags = Check.partyOf(Check.NINE, 3);
        Check.due("order", bags.bestOrder(0), 231);
        Check.due("how much", bags.bestOrder(1), 1);
        Check.due("bestOrder(2)", bags.bestOrder(2), NineBags.OUTSIDE);
        Check.due("bestOrder(-1)", bags.bestOrder(-1), NineBags.OUTSIDE);
        NineBags noChildren = Check.partyOf("k1 1;t0;", 0);
        Check.due("no children", noChildren.bestOrder(0), -1);
        Check.due("no children: how much", noChildren.bestOrder(1), -1);
        Check.due("no children: what", noChildren.bestOrder(2), NineBags.OUTSIDE);
        NineBags like = Check.partyOf("k1 1;c0 1;c0 1;c0 1;c0 1;t0;", 4);
        Check.due("of like ones the least", like.bestOrder(0), 1234);
        Check.due("nobody looks", like.bestOrder(1), 0);
        // One thing: whoever has it is looked at by those who look at it; 3 is looked at by nobody.
        NineBags last = Check.partyOf("k1 1;c0 1;c0 1;c0 1;c0 1;l1 0;l0 1;l0 2;t0;", 4);
        Check.due("3 first", last.bestOrder(0), 4123);
        Check.due("then none is envied", last.bestOrder(1), 0);
        last.give(0, 0);
        Check.due("nothing lies: the least", last.bestOrder(0), 1234);
        Check.due("nothing lies: as it is", last.bestOrder(1), 1);
        Check.due("one child", Check.partyOf("k1 1;c0 1;t0;", 1).bestOrder(0), 1);
    }

    private static void sweetsParted() {
        NineBags three = Check.partyOf(Check.NINE, 3);
        Check.due("19 short", three.sweets(19, 0), 1);
        Check.due("19, one long", three.sweets(19, 1), 2);
        Check.due("18 long", three.sweets(18, 18), 0);
        Check.due("one long", three.sweets(1, 1), 2);
        Check.due("two long, one short", three.sweets(3, 2), 5);
        Check.due("three long", three.sweets(3, 3), 0);
        Check.due("four long, one short", three.sweets(5, 4), 3);
        Check.due("none", three.sweets(0, 0), 0);
        // 9 is 3 each by counting, but two short ones make two parts of three, not three: 2 each.
        Check.due("not enough short ones", three.sweets(6, 4), 4);
        Check.due("999 long", three.sweets(999, 999), 0);
        Check.due("998 long", three.sweets(998, 998), 4);
        Check.due("n 1000", three.sweets(1000, 0), NineBags.OUTSIDE);
        Check.due("n -1", three.sweets(-1, 0), NineBags.OUTSIDE);
        Check.due("m -1", three.sweets(5, -1), NineBags.OUTSIDE);
        Check.due("m above n", three.sweets(5, 6), NineBags.OUTSIDE);
        Check.due("no children", new NineBags().sweets(5, 2), -1);
        Check.due("no children, out of bounds", new NineBags().sweets(5, 6), NineBags.OUTSIDE);
        Check.due("one child has all", Check.partyOf("k1 1;c0 1;", 1).sweets(999, 500), 0);
    }

    private static void lastingAndRising() {
        NineBags bags = Check.partyOf("k999 99;k10 0;k5 7;t0;t1;t2;t0;t0;t0;t0;", 0);
        Check.due("0 days", bags.lasts(0), 127);
        Check.due("1 day", bags.lasts(1), 125);
        Check.due("7 days", bags.lasts(7), 125);
        Check.due("8 days", bags.lasts(8), 121);
        Check.due("99 days", bags.lasts(99), 121);
        Check.due("100 days", bags.lasts(100), NineBags.OUTSIDE);
        Check.due("-1 days", bags.lasts(-1), NineBags.OUTSIDE);
        Check.due("no party", new NineBags().lasts(0), 0);
        Check.due("costs", bags.told(8), 5010);
        Check.due("now", bags.rises(0), 5010);
        Check.due("1 year", bags.rises(1), 5511);
        Check.due("2 years, cut", bags.rises(2), 6062);
        Check.due("3 years, cut each", bags.rises(3), 6668);
        Check.due("-1 years", bags.rises(-1), NineBags.OUTSIDE);
        Check.due("31 years", bags.rises(31), NineBags.OUTSIDE);
        Check.due("no party", new NineBags().rises(30), 0);
        int pence = 5010;
        for (int i = 0; i < 30; i++) {
            pence = pence * 11 / 10;
        }
        Check.due("30 years", bags.rises(30), pence);
        Check.due("nine pence never rise", Check.partyOf("k9 1;t0;", 0).rises(30), 9);
    }

    private static void spared() {
        NineBags bags = Check.partyOf(Check.NINE, 3);
        Check.due("for 0: 9, 5, 6", bags.spare(0), 1);
        Check.due("for 1: kind 2 is banned", bags.spare(1), 0);
        Check.due("for 2: like ones", bags.spare(2), 0);
        bags.give(3, 0);
        // 2 envies 0 by 6: kind 2 settles that.
        Check.due("for 2 with envy", bags.spare(2), 2);
        Check.due("spare(3)", bags.spare(3), NineBags.UNKNOWN);
        Check.due("spare(-1)", bags.spare(-1), NineBags.UNKNOWN);
        Check.due("nothing changes", bags.told(5), 6);
        NineBags none = Check.partyOf("k1 1;k1 1;c3 9,9;c2 5,5;", 2);
        Check.due("all is banned", none.spare(0), -1);
        Check.due("one is left", none.spare(1), 0);
    }

    private static void odds() {
        NineBags bags = Check.partyOf("k1 1;k1 1;c0 33,99;c0 33,99;c0 7,2;l0 1;l2 1;t0;t1;t1;", 3);
        Check.due("nobody cries", bags.dry(), 1000000000);
        bags.give(0, 1);
        Check.due("67 of 100, 93 of 100", bags.dry(), 623100000);
        bags.give(1, 1);
        Check.due("132 is 100 at most", bags.dry(), 0);
        NineBags cut = Check.partyOf("k1 1;c0 33;c0 33;c0 33;c0 33;l0 3;l1 3;l2 3;l0 2;l1 2;l2 0;t0;t0;", 4);
        cut.give(0, 3);
        cut.give(1, 2);
        // 0 at 2, 0 at 3, 1 at 2, 1 at 3; 2 has one of its own.
        long odds = 1000000000;
        for (int i = 0; i < 4; i++) {
            odds = odds * 67 / 100;
        }
        Check.due("cut each", cut.dry(), odds);
        NineBags sure = Check.partyOf("k1 1;k1 1;c0 99,1;c0 99,1;l0 1;t0;t1;", 2);
        sure.give(0, 1);
        Check.due("99 of 100", sure.dry(), 10000000);
        sure.give(1, 1);
        Check.due("100 of 100", sure.dry(), 0);
        NineBags atFirst = Check.partyOf("k1 1;c0 10;c0 20;l1 0;l0 1;t0;", 2);
        atFirst.give(0, 0);
        Check.due("1 cries at 0", atFirst.dry(), 800000000);
        Check.due("no party", new NineBags().dry(), 1000000000);
        NineBags order = Check.partyOf("k1 1;c0 97;c0 93;c0 89;l0 1;l0 2;l1 2;l2 1;t0;t0;", 3);
        order.give(0, 1);
        order.give(1, 2);
        Check.due("two of 97", order.dry(), 900000);
        order.take(1);
        Check.due("97, 89", order.dry(), 3300000);
    }
}
