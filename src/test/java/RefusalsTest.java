/** The refusals under 'Terms' and of each heading: both sides of each bound, their order, and that nothing changes. */
public final class RefusalsTest {
    private static final int UNKNOWN = NineBags.UNKNOWN;
    private static final int OUTSIDE = NineBags.OUTSIDE;
    private static final int NOT = NineBags.NOT;
    private static final int FULL = NineBags.FULL;
    private static final int NONE = NineBags.NONE;
    private static final int[] FAR = {Integer.MIN_VALUE, Integer.MIN_VALUE + 1, -1000000001, -100, -2, -1};
    private static final String ONE = "k1 1;c0 1;t0;";
    private static final String MOST = "k1 1;k1 1;k1 1;k1 1;k1 1;c0 1,1,1,1,1;c0 1,1,1,1,1;c0 1,1,1,1,1;c0 1,1,1,1,1;t0;t0;t0;t0;t0;t0;t0;";

    public static void main(String[] args) {
        whatThereIsNot();
        oneTwice();
        whatIsAsked();
        numbersOutOfBounds();
        notNow();
        full();
        unknownFirst();
        outsideAheadOfTheRest();
        notAheadOfFull();
        farBelowWhatIsCounted();
        refusedChangesNothing();
        refusedWhereNothingIsLeft();
        Check.finish("RefusalsTest");
    }

    private static NineBags kindsChildrenThings(String text) {
        NineBags bags = new NineBags();
        Check.feedAll(bags, text);
        Check.due("party() of '" + text + "'", bags.party() >= 0);
        return bags;
    }

    // ---- UNKNOWN: a CHILD, THING, KIND, IMAGE that there is not

    private static void whatThereIsNot() {
        String[] texts = {"", "k1 1;t0;", "k1 1;c0 1;", ONE, Check.NINE, MOST};
        for (String text : texts) {
            NineBags sizes = kindsChildrenThings(text);
            int kinds = sizes.told(0);
            int children = sizes.told(1);
            int things = sizes.told(2);
            for (int below : FAR) {
                noSuchKind(text, below);
                noSuchChild(text, below, children);
                noSuchThing(text, below);
            }
            for (int above : new int[] {0, 1, 9, 1000, Integer.MAX_VALUE - 9}) {
                noSuchKind(text, kinds + above);
                noSuchChild(text, children + above, children);
                noSuchThing(text, things + above);
            }
            lastOfEach(text, kinds - 1, children - 1, things - 1);
        }
        images();
    }

    private static void noSuchKind(String text, int k) {
        NineBags bags = kindsChildrenThings(text);
        Check.sentence("Promise 6: of a KIND. UNKNOWN");
        Check.due("kind(" + k + ", 0) of '" + text + "'", bags.kind(k, 0), UNKNOWN);
        Check.due("kind(" + k + ", 1) of '" + text + "'", bags.kind(k, 1), UNKNOWN);
        Check.sentence("Promise 8: for a KIND. UNKNOWN");
        Check.due("gives(0, " + k + ") of '" + text + "'", bags.gives(0, k), UNKNOWN);
    }

    private static void noSuchChild(String text, int c, int children) {
        NineBags bags = kindsChildrenThings(text);
        String of = c + " of '" + text + "'";
        Check.sentence("Promise 7: of a CHILD. UNKNOWN");
        for (int what = 0; what < 4; what++) {
            Check.due("child " + of, bags.child(c, what), UNKNOWN);
        }
        Check.sentence("Promise 8: what a CHILD would give. UNKNOWN");
        Check.due("gives " + of, bags.gives(c, 0), UNKNOWN);
        Check.sentence("Promise 10: ENVY of one at another. UNKNOWN");
        Check.due("envy of " + of, bags.envy(c, 0), UNKNOWN);
        Check.due("envy at " + of, bags.envy(0, c), UNKNOWN);
        Check.sentence("Promise 11: GIVEN to a CHILD. UNKNOWN");
        Check.due("give to " + of, bags.give(0, c), UNKNOWN);
        Check.sentence("Promise 14: DRAWN from a CHILD on. UNKNOWN");
        Check.due("draw " + of, bags.draw(c), UNKNOWN);
        Check.sentence("Promise 25: SPARE, for a CHILD. UNKNOWN");
        Check.due("spare " + of, bags.spare(c), UNKNOWN);
        Check.sentence("Promise 27: SEEN. UNKNOWN");
        Check.due("see of " + of, bags.see(c, 0, true), UNKNOWN);
        Check.due("see at " + of, bags.see(0, c, false), UNKNOWN);
        if (c != NONE) {
            Check.sentence("Promise 30: An entry. UNKNOWN (c NONE: the table)");
            Check.due("write " + of, bags.write(0, c), UNKNOWN);
        }
        Check.due("nothing is done of " + children, bags.told(11), 0);
    }

    private static void noSuchThing(String text, int t) {
        NineBags bags = kindsChildrenThings(text);
        String of = t + " of '" + text + "'";
        Check.sentence("Promise 9: Of a THING. UNKNOWN");
        Check.due("thing " + of, bags.thing(t, 0), UNKNOWN);
        Check.due("thing " + of, bags.thing(t, 1), UNKNOWN);
        Check.sentence("Promise 11: GIVEN. UNKNOWN");
        Check.due("give " + of, bags.give(t, 0), UNKNOWN);
        Check.sentence("Promise 12: TAKEN. UNKNOWN");
        Check.due("take " + of, bags.take(t), UNKNOWN);
        Check.sentence("Promise 13: SWAPPED. UNKNOWN");
        bags.draw(0);
        Check.due("swap " + of, bags.swap(t, 0), UNKNOWN);
        Check.due("swap with " + of, bags.swap(0, t), UNKNOWN);
        if (t != NONE) {
            Check.sentence("Promise 19: SHARE. UNKNOWN");
            Check.due("share " + of, bags.share(t), UNKNOWN);
            Check.sentence("Promise 28: HAD. UNKNOWN");
            Check.due("had " + of, bags.had(t), UNKNOWN);
        }
        Check.sentence("Promise 20: CHOICE, of a THING. UNKNOWN");
        Check.due("choice " + of, bags.choice(1, t), UNKNOWN);
        Check.sentence("Promise 30: An entry. UNKNOWN");
        Check.due("write " + of, bags.write(t, NONE), UNKNOWN);
    }

    /** The last one of each is there, wherever one more is not. */
    private static void lastOfEach(String text, int k, int c, int t) {
        NineBags bags = kindsChildrenThings(text);
        Check.sentence("What has a number has it from 0 on, as it comes");
        if (k >= 0) {
            Check.due("kind", bags.kind(k, 0) >= 0);
        }
        if (c >= 0) {
            Check.due("child", bags.child(c, 0) >= 0);
            Check.due("spare", bags.spare(c) >= 0);
            Check.due("gives", bags.gives(c, k) >= 0);
        }
        if (t >= 0) {
            Check.due("thing", bags.thing(t, 0) >= 0);
            Check.due("write", bags.write(t, NONE), 1);
            Check.due("had", bags.had(t) >= NONE);
            Check.due("share", bags.share(t) >= NONE);
        }
        if (c >= 0 && t >= 0) {
            Check.due("give", bags.give(t, c), NONE);
            Check.due("write", bags.write(t, c), 2);
            Check.due("take", bags.take(t), c);
            Check.due("draw", bags.draw(c), t + 1);
        }
        if (c >= 1 && t >= 1) {
            bags.give(t, c);
            bags.give(0, 0);
            Check.due("envy", bags.envy(c, 0) >= 0 && bags.envy(0, c) >= 0);
            Check.due("swap", bags.swap(0, t) >= 0 && bags.swap(t, 0) >= 0);
        }
    }

    private static void images() {
        Check.sentence("IMAGES 0, 1: UNKNOWN (an IMAGE that there is not)");
        NineBags bags = new NineBags();
        for (int i : FAR) {
            Check.due("keep(" + i + ")", bags.keep(i), UNKNOWN);
            Check.due("goBack(" + i + ")", bags.goBack(i), UNKNOWN);
        }
        for (int i : new int[] {2, 3, 10, Integer.MAX_VALUE}) {
            Check.due("keep(" + i + ")", bags.keep(i), UNKNOWN);
            Check.due("goBack(" + i + ")", bags.goBack(i), UNKNOWN);
        }
        for (int i = 0; i < 2; i++) {
            Check.due("keep(" + i + ")", bags.keep(i), 1);
            Check.due("goBack(" + i + ")", bags.goBack(i), 1);
        }
    }

    // ---- UNKNOWN: one twice, where two are asked

    private static void oneTwice() {
        NineBags bags = Check.partyOf(Check.NINE, 3);
        bags.draw(0);
        for (int c = 0; c < 3; c++) {
            Check.sentence("one twice, where two are asked: envy");
            Check.due("envy of " + c, bags.envy(c, c), UNKNOWN);
            Check.sentence("one twice, where two are asked: see");
            Check.due("see of " + c, bags.see(c, c, false), UNKNOWN);
        }
        Check.sentence("one twice, where two are asked: swap");
        for (int t = 0; t < 5; t++) {
            Check.due("swap of " + t, bags.swap(t, t), UNKNOWN);
        }
    }

    // ---- OUTSIDE: what is asked for by number

    private static void whatIsAsked() {
        for (int wrong : new int[] {Integer.MIN_VALUE, -2, -1, 12, 13, 100, Integer.MAX_VALUE}) {
            Check.sentence("Promise 5: 0 KINDS .. 11 how many can be undone. OUTSIDE");
            NineBags bags = Check.partyOf(Check.NINE, 3);
            Check.due("told(" + wrong + ")", bags.told(wrong), OUTSIDE);
            Check.due("told(" + wrong + ") of a new object", new NineBags().told(wrong), OUTSIDE);
        }
        for (int wrong : new int[] {Integer.MIN_VALUE, -2, -1, 2, 3, 100, Integer.MAX_VALUE}) {
            NineBags bags = Check.partyOf(Check.NINE, 3);
            Check.sentence("Promise 6: what = 0 P, 1 L. OUTSIDE");
            Check.due("kind(0, " + wrong + ")", bags.kind(0, wrong), OUTSIDE);
            Check.sentence("Promise 9: what = 0 KIND, 1 the CHILD that has it. OUTSIDE");
            Check.due("thing(0, " + wrong + ")", bags.thing(0, wrong), OUTSIDE);
            Check.sentence("Promise 18: what = 0 how many, 1 TEARS. OUTSIDE");
            Check.due("settled(" + wrong + ")", bags.settled(wrong), OUTSIDE);
            Check.due("settled(" + wrong + ") of a new object", new NineBags().settled(wrong), OUTSIDE);
            Check.sentence("Promise 21: what = 0 ORDER, 1 how much. OUTSIDE");
            Check.due("bestOrder(" + wrong + ")", bags.bestOrder(wrong), OUTSIDE);
        }
        for (int wrong : new int[] {Integer.MIN_VALUE, -2, -1, 4, 5, 100, Integer.MAX_VALUE}) {
            Check.sentence("Promise 7: what = 0 A .. 3 at whom it looks. OUTSIDE");
            Check.due("child(0, " + wrong + ")", Check.partyOf(Check.NINE, 3).child(0, wrong), OUTSIDE);
        }
    }

    // ---- OUTSIDE: another number out of its bounds

    private static void numbersOutOfBounds() {
        Check.sentence("Promise 15: n times (1 .. 60). OUTSIDE");
        for (int n : new int[] {Integer.MIN_VALUE, -1, 0, 61, 62, Integer.MAX_VALUE}) {
            Check.due("drift(" + n + ")", Check.partyOf(Check.NINE, 3).drift(n), OUTSIDE);
        }
        for (int n : new int[] {1, 2, 59, 60}) {
            Check.due("drift(" + n + ")", Check.partyOf(Check.NINE, 3).drift(n) >= 0);
        }
        Check.sentence("Promise 22: n (0 .. 999), m (0 .. n). OUTSIDE");
        NineBags bags = Check.partyOf(Check.NINE, 3);
        int[][] wrong = {{-1, 0}, {-1, -1}, {1000, 0}, {1000, 1000}, {5, -1}, {5, 6}, {0, 1}, {0, -1}, {999, 1000}, {999, -1},
            {Integer.MIN_VALUE, Integer.MIN_VALUE}, {Integer.MAX_VALUE, Integer.MAX_VALUE}, {5, Integer.MIN_VALUE}, {5, Integer.MAX_VALUE}};
        for (int[] pair : wrong) {
            Check.due("sweets(" + pair[0] + ", " + pair[1] + ")", bags.sweets(pair[0], pair[1]), OUTSIDE);
        }
        int[][] right = {{0, 0}, {1, 0}, {1, 1}, {999, 0}, {999, 999}, {5, 5}};
        for (int[] pair : right) {
            Check.due("sweets(" + pair[0] + ", " + pair[1] + ")", bags.sweets(pair[0], pair[1]) >= 0);
        }
        Check.sentence("Promise 23: d days (0 .. 99). OUTSIDE");
        for (int d : new int[] {Integer.MIN_VALUE, -1, 100, 101, Integer.MAX_VALUE}) {
            Check.due("lasts(" + d + ")", bags.lasts(d), OUTSIDE);
            Check.due("lasts(" + d + ") of a new object", new NineBags().lasts(d), OUTSIDE);
        }
        Check.due("lasts(0)", bags.lasts(0), 31);
        Check.due("lasts(99)", bags.lasts(99), 0);
        Check.sentence("Promise 24: n years (0 .. 30). OUTSIDE");
        for (int n : new int[] {Integer.MIN_VALUE, -1, 31, 32, Integer.MAX_VALUE}) {
            Check.due("rises(" + n + ")", bags.rises(n), OUTSIDE);
            Check.due("rises(" + n + ") of a new object", new NineBags().rises(n), OUTSIDE);
        }
        Check.due("rises(0)", bags.rises(0), 530);
        Check.due("rises(30)", bags.rises(30), 9197);
        Check.sentence("Promise 33: v (0 .. 2147483647). OUTSIDE");
        for (int v : FAR) {
            Check.due("seed(" + v + ")", bags.seed(v), OUTSIDE);
        }
        Check.due("seed(2147483647)", bags.seed(2147483647), 0);
        Check.due("seed(0)", bags.seed(0), 2147483647);
        wrongOrders();
    }

    private static void wrongOrders() {
        Check.sentence("Promise 20: OUTSIDE: no such ORDER");
        NineBags three = Check.partyOf(Check.NINE, 3);
        int[] wrong = {0, 1, 12, 23, 111, 112, 122, 120, 102, 12, 124, 134, 234, 423, 1123, 1230, 1234, 3210, 12300, 123123, -123, -321,
            1000000123, Integer.MAX_VALUE, Integer.MIN_VALUE};
        for (int order : wrong) {
            Check.due("choice(" + order + ", 0) of three", three.choice(order, 0), OUTSIDE);
        }
        for (int order : new int[] {123, 132, 213, 231, 312, 321}) {
            Check.due("choice(" + order + ", 0) of three", three.choice(order, 0) >= 0);
        }
        NineBags four = Check.partyOf(MOST, 4);
        int right = 0;
        for (int head = 0; head < 10000; head += 100) {
            // So few calls of one object that it is within its 512.
            NineBags bags = Check.partyOf("k1 1;c0 1;c0 1;c0 1;c0 1;t0;", 4);
            for (int order = head; order < head + 100; order++) {
                right += bags.choice(order, 0) == OUTSIDE ? 0 : 1;
            }
        }
        Check.due("orders of four", right, 24);
        for (int order : new int[] {123, 12345, 12340, 1235, 11234, 5123, -1234, 44444}) {
            Check.due("choice(" + order + ", 0) of four", four.choice(order, 0), OUTSIDE);
        }
        NineBags one = Check.partyOf(ONE, 1);
        Check.due("the only ORDER of one", one.choice(1, 0), 0);
        for (int order : new int[] {0, 2, 10, 11, 12, -1}) {
            Check.due("choice(" + order + ", 0) of one", one.choice(order, 0), OUTSIDE);
        }
    }

    // ---- NOT: not now, as told

    private static void notNow() {
        Check.sentence("Promise 12: NOT: it lies on the table");
        NineBags bags = Check.partyOf(Check.NINE, 3);
        for (int t = 0; t < 5; t++) {
            Check.due("take(" + t + ")", bags.take(t), NOT);
        }
        bags.give(4, 2);
        Check.due("take(4)", bags.take(4), 2);
        Check.due("take(4) again", bags.take(4), NOT);

        Check.sentence("Promise 13: NOT: one lies on the table");
        Check.due("both lie there", bags.swap(0, 1), NOT);
        bags.give(0, 1);
        Check.due("the second lies there", bags.swap(0, 1), NOT);
        Check.due("the first lies there", bags.swap(1, 0), NOT);
        Check.sentence("Promise 13: NOT: both have the same CHILD");
        bags.give(1, 1);
        Check.due("the same CHILD", bags.swap(0, 1), NOT);
        Check.due("the same CHILD", bags.swap(1, 0), NOT);
        bags.give(1, 2);
        Check.due("unlike ones", bags.swap(1, 0) >= 0);

        Check.sentence("Promise 14: NOT: none lies on the table");
        Check.due("three lie there", bags.draw(0), 3);
        for (int c = 0; c < 3; c++) {
            Check.due("draw(" + c + ")", bags.draw(c), NOT);
        }
        bags.take(3);
        Check.due("one lies there", bags.draw(2), 1);
        Check.due("no THINGS at all", Check.partyOf("k1 1;c0 1;", 1).draw(0), NOT);

        Check.sentence("Promise 15: NOT: no PARTY (no KINDS)");
        Check.due("a new object", new NineBags().drift(1), NOT);
        Check.due("an empty text", Check.partyOf("", 0).drift(60), NOT);
        Check.due("a KIND alone", Check.partyOf("k1 1;", 0).drift(1), 0);

        Check.sentence("Promise 16: NOT: none");
        NineBags undone = Check.partyOf(Check.NINE, 3);
        Check.due("none was done", undone.undo(), NOT);
        undone.give(0, 0);
        Check.due("one was done", undone.undo(), 0);
        Check.due("it is undone", undone.undo(), NOT);

        Check.sentence("Promise 27: NOT: C does not look at D");
        Check.due("0 at 2", undone.see(0, 2, true), NOT);
        Check.due("1 at 2", undone.see(1, 2, false), NOT);
        Check.due("0 at 1", undone.see(0, 1, true), 1);

        Check.sentence("Promise 35: NOT: it was not kept");
        Check.due("goBack(0)", undone.goBack(0), NOT);
        Check.due("goBack(1)", undone.goBack(1), NOT);
        undone.keep(1);
        Check.due("goBack(0), when 1 is kept", undone.goBack(0), NOT);
        Check.due("goBack(1), when 1 is kept", undone.goBack(1), 1);
    }

    // ---- FULL

    private static void full() {
        NineBags bags = Check.partyOf(Check.NINE, 3);
        Check.sentence("Promise 27: FULL (6)");
        for (int i = 1; i <= 6; i++) {
            Check.due("see " + i, bags.see(0, 1, true), i);
        }
        Check.due("the seventh", bags.see(1, 0, true), FULL);
        Check.due("the seventh again", bags.see(0, 1, false), FULL);
        Check.due("six are SEEN", bags.told(9), 6);
        Check.due("as many ways as with the first", bags.had(NONE), 115);

        Check.sentence("Promise 30: FULL (15)");
        for (int i = 1; i <= 15; i++) {
            Check.due("write " + i, bags.write(0, NONE), i);
        }
        Check.due("the sixteenth", bags.write(1, 2), FULL);
        Check.due("the sixteenth, of the table", bags.write(1, NONE), FULL);
        Check.due("fifteen entries", bags.told(10), 15);
        Check.due("none is WRONG", bags.judge(), NONE);
    }

    // ---- of several the first in this order

    private static NineBags fullOfAll() {
        NineBags bags = Check.partyOf(Check.NINE, 3);
        bags.draw(0);
        for (int i = 0; i < 6; i++) {
            bags.see(0, 1, true);
        }
        for (int i = 0; i < 15; i++) {
            bags.write(0, 0);
        }
        return bags;
    }

    private static void unknownFirst() {
        NineBags bags = fullOfAll();
        Check.sentence("REFUSALS, of several the first in this order: UNKNOWN, OUTSIDE");
        Check.due("kind(3, 2)", bags.kind(3, 2), UNKNOWN);
        Check.due("child(3, 4)", bags.child(3, 4), UNKNOWN);
        Check.due("thing(5, 2)", bags.thing(5, 2), UNKNOWN);
        Check.due("choice(0, 5)", bags.choice(0, 5), UNKNOWN);
        Check.due("choice(12, -1)", bags.choice(12, -1), UNKNOWN);
        Check.sentence("REFUSALS, of several the first in this order: UNKNOWN, NOT");
        Check.due("draw(3), none lies on the table", bags.draw(3), UNKNOWN);
        Check.due("see(1, 1), it does not look at itself", bags.see(1, 1, true), UNKNOWN);
        Check.due("goBack(2), not kept", bags.goBack(2), UNKNOWN);
        bags.take(0);
        Check.due("swap(0, 0), on the table", bags.swap(0, 0), UNKNOWN);
        Check.due("swap(0, 5), on the table", bags.swap(0, 5), UNKNOWN);
        Check.due("swap(5, 0), on the table", bags.swap(5, 0), UNKNOWN);
        Check.due("take(5), nobody has it", bags.take(5), UNKNOWN);
        Check.sentence("REFUSALS, of several the first in this order: UNKNOWN, FULL");
        Check.due("see(3, 0), full", bags.see(3, 0, true), UNKNOWN);
        Check.due("see(0, 3), full", bags.see(0, 3, true), UNKNOWN);
        Check.due("see(0, 0), full", bags.see(0, 0, true), UNKNOWN);
        Check.due("write(5, 0), full", bags.write(5, 0), UNKNOWN);
        Check.due("write(0, 3), full", bags.write(0, 3), UNKNOWN);
        Check.due("write(0, -2), full", bags.write(0, -2), UNKNOWN);
    }

    private static void outsideAheadOfTheRest() {
        Check.sentence("REFUSALS, of several the first in this order: OUTSIDE, NOT");
        Check.due("drift(0), no PARTY", new NineBags().drift(0), OUTSIDE);
        Check.due("drift(61), no PARTY", new NineBags().drift(61), OUTSIDE);
        Check.sentence("REFUSALS, of several the first in this order: OUTSIDE, FULL");
        NineBags bags = new NineBags();
        Check.feedAll(bags, " ".repeat(240));
        Check.due("feed(256), full", bags.feed(256), OUTSIDE);
        Check.due("feed(-1), full", bags.feed(-1), OUTSIDE);
        Check.due("feed(255), full", bags.feed(255), FULL);
    }

    private static void notAheadOfFull() {
        Check.sentence("REFUSALS, of several the first in this order: NOT, FULL");
        NineBags bags = fullOfAll();
        Check.due("see(0, 2), full", bags.see(0, 2, true), NOT);
        Check.due("see(1, 2), full", bags.see(1, 2, false), NOT);
        Check.due("see(0, 1), full", bags.see(0, 1, true), FULL);
    }

    private static void farBelowWhatIsCounted() {
        Check.sentence("They are far below all that is counted: -1000000001 and on");
        Check.due("UNKNOWN", NineBags.UNKNOWN, -1000000001);
        Check.due("OUTSIDE", NineBags.OUTSIDE, -1000000002);
        Check.due("NOT", NineBags.NOT, -1000000003);
        Check.due("FULL", NineBags.FULL, -1000000004);
        Check.sentence("NONE is -1");
        Check.due("NONE", NineBags.NONE, -1);
    }

    // ---- What is refused changes nothing

    private static void refusedChangesNothing() {
        Check.sentence("What is refused changes nothing");
        String unspoilt = Whole.of(busy());
        for (int call = 0; call < 34; call++) {
            NineBags bags = busy();
            int answer = refused(bags, call);
            Check.due("call " + call + " is refused", answer <= UNKNOWN && answer >= FULL);
            Check.due("all behind call " + call, Whole.of(bags), unspoilt);
        }
    }

    private static void refusedWhereNothingIsLeft() {
        Check.sentence("What is refused changes nothing");
        String unspoilt = Whole.of(spent());
        for (int call = 0; call < 4; call++) {
            NineBags bags = spent();
            int answer = call == 0 ? bags.feed('k') : call == 1 ? bags.draw(0) : call == 2 ? bags.undo() : bags.goBack(1);
            Check.due("call " + call + " of a spent one", answer, call == 0 ? FULL : NOT);
            Check.due("all behind call " + call + " of a spent one", Whole.of(bags), unspoilt);
        }
        NineBags none = new NineBags();
        none.seed(5);
        Check.due("drift(1) without a PARTY", none.drift(1), NOT);
        Check.due("THE SEED stays", none.seed(0), 5);
        Check.due("it cannot be undone", none.told(11), 0);
    }

    /** All is given, nothing can be undone, the text is full, image 0 is kept. */
    private static NineBags spent() {
        NineBags bags = Check.partyOf("k1 1;c0 1;c0 1;l0 1;t0;t0;", 2);
        bags.draw(1);
        bags.seed(3);
        bags.keep(0);
        bags.seed(4);
        Check.feedAll(bags, Check.atEndOf(240, "k7 8;c1 9;t0;"));
        return bags;
    }

    /** Something is done, seen, written, kept, fed; thing 0 lies on the table. */
    private static NineBags busy() {
        NineBags bags = Check.partyOf(Check.NINE, 3);
        bags.draw(1);
        bags.seed(99);
        bags.keep(1);
        bags.drift(3);
        bags.give(2, 0);
        bags.give(4, 0);
        bags.give(3, 1);
        if (bags.thing(0, 1) != NONE) {
            bags.take(0);
        }
        bags.see(2, 1, false);
        for (int i = 0; i < 5; i++) {
            bags.see(2, 0, true);
        }
        for (int i = 0; i < 15; i++) {
            bags.write(i % 5, i % 4 - 1);
        }
        Check.feedAll(bags, "k7 8;c1 9;t0;");
        return bags;
    }

    private static int refused(NineBags bags, int call) {
        switch (call) {
            case 0: return bags.feed(256);
            case 1: return bags.feed(-1);
            case 2: return bags.told(12);
            case 3: return bags.kind(3, 0);
            case 4: return bags.child(0, 4);
            case 5: return bags.gives(0, 3);
            case 6: return bags.thing(5, 1);
            case 7: return bags.envy(1, 1);
            case 8: return bags.give(0, 3);
            case 9: return bags.give(5, 0);
            case 10: return bags.take(0);
            case 11: return bags.take(5);
            case 12: return bags.swap(2, 4);
            case 13: return bags.swap(0, 2);
            case 14: return bags.swap(3, 3);
            case 15: return bags.draw(3);
            case 16: return bags.drift(0);
            case 17: return bags.drift(61);
            case 18: return bags.settled(2);
            case 19: return bags.share(5);
            case 20: return bags.choice(12, 0);
            case 21: return bags.bestOrder(2);
            case 22: return bags.sweets(3, 4);
            case 23: return bags.lasts(100);
            case 24: return bags.rises(31);
            case 25: return bags.spare(3);
            case 26: return bags.see(0, 1, true);
            case 27: return bags.see(0, 2, true);
            case 28: return bags.had(5);
            case 29: return bags.write(0, 1);
            case 30: return bags.write(5, 1);
            case 31: return bags.seed(-1);
            case 32: return bags.keep(2);
            default: return bags.goBack(0);
        }
    }
}
