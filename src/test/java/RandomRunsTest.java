import java.util.Random;

/** Long runs of calls, good and wrong ones, on an object and on the plain model: both answer alike. */
public final class RandomRunsTest {
    private static final int RUNS = 1500;
    // An object is used for 512 calls at most; a turn makes three at most.
    private static final int CALLS = 512;
    private static final int CALLS_OF_A_TURN = 3;

    private final Random random;
    private final int run;
    private final NineBags bags = new NineBags();
    private final Model model = new Model();
    private int calls = 0;

    private RandomRunsTest(int run) {
        this.run = run;
        this.random = new Random(run);
    }

    public static void main(String[] args) {
        for (int run = 0; run < RUNS && Check.isFine(); run++) {
            new RandomRunsTest(run).go();
        }
        Check.finish("RandomRunsTest");
    }

    private void go() {
        int most = 2 + random.nextInt(6);
        tellParty(most);
        while (calls + CALLS_OF_A_TURN <= CALLS && Check.isFine()) {
            if (random.nextInt(150) == 0) {
                tellParty(most);
            }
            any();
        }
    }

    private void same(String what, int got, int want) {
        calls++;
        Check.due("run " + run + ", call " + calls + ": " + what, got, want);
    }

    private void tellParty(int mostThings) {
        String text = random.nextInt(12) == 0 ? "" : goodText(mostThings);
        if (random.nextInt(3) == 0) {
            text = spoilt(text);
        }
        if (calls + text.length() + 2 + CALLS_OF_A_TURN > CALLS) {
            return;
        }
        for (int i = 0; i < text.length(); i++) {
            same("feed " + text.charAt(i), bags.feed(text.charAt(i)), model.feed(text.charAt(i)));
        }
        same("party of '" + text + "'", bags.party(), model.party());
        same("fault of '" + text + "'", bags.fault(), model.fault());
    }

    private String blanks() {
        return random.nextInt(12) == 0 ? "  " : "";
    }

    private String number(int bound) {
        int value = random.nextInt(bound);
        return random.nextInt(20) == 0 ? String.format("%03d", value) : "" + value;
    }

    private String goodText(int mostThings) {
        StringBuilder text = new StringBuilder();
        int kinds = 1 + random.nextInt(5);
        int children = random.nextInt(8) == 0 ? random.nextInt(2) : 2 + random.nextInt(3);
        // Small prices make like ones, over which "the least" has to decide.
        int prices = random.nextBoolean() ? 4 : 100;
        int tricky = random.nextInt(3) == 0 ? 32 : 1 + random.nextInt(4);
        for (int k = 0; k < kinds; k++) {
            text.append('k').append(blanks()).append(number(1000)).append(' ').append(blanks()).append(number(100)).append(blanks()).append(';');
        }
        for (int c = 0; c < children; c++) {
            text.append('c').append(number(tricky)).append(' ').append(number(prices));
            for (int k = 1; k < kinds; k++) {
                text.append(blanks()).append(',').append(number(prices));
            }
            text.append(';');
        }
        int looks = 2 + random.nextInt(4);
        for (int c = 0; c < children; c++) {
            for (int d = 0; d < children; d++) {
                if (c != d && random.nextInt(6) < looks) {
                    text.append('l').append(c).append(' ').append(d).append(';').append(blanks());
                }
            }
        }
        int things = random.nextInt(mostThings + 1);
        for (int t = 0; t < things; t++) {
            text.append('t').append(random.nextInt(kinds)).append(';');
        }
        return text.toString();
    }

    private String spoilt(String text) {
        String signs = "kclt;, 0123456789x99";
        StringBuilder odd = new StringBuilder(text);
        int times = 1 + random.nextInt(2);
        for (int i = 0; i < times; i++) {
            char sign = signs.charAt(random.nextInt(signs.length()));
            int place = random.nextInt(odd.length() + 1);
            switch (random.nextInt(5)) {
                case 0 -> odd.insert(place, sign);
                case 1 -> odd.setLength(place);
                case 2 -> odd.append("klct".charAt(random.nextInt(4))).append(sign);
                default -> {
                    if (place < odd.length()) {
                        if (random.nextBoolean()) {
                            odd.setCharAt(place, sign);
                        } else {
                            odd.deleteCharAt(place);
                        }
                    }
                }
            }
        }
        return odd.toString();
    }

    /** From below the least to above the greatest, mostly in between. */
    private int near(int bound) {
        return random.nextInt(15) == 0 ? random.nextInt(bound + 5) - 3 : random.nextInt(Math.max(1, bound));
    }

    private int aChild() {
        return near(model.told(1));
    }

    private int aThing() {
        return near(model.told(2));
    }

    private int aThingOrNone() {
        return random.nextInt(3) == 0 ? -1 : aThing();
    }

    private int anOrder() {
        int[][] orders = {{0}, {1}, {12, 21}, {123, 132, 213, 231, 312, 321}, {1234, 4321, 2413, 3142, 2134, 4132}};
        int[] fitting = orders[random.nextInt(6) == 0 ? random.nextInt(5) : model.told(1)];
        return random.nextInt(15) == 0 ? random.nextInt(5000) - 100 : fitting[random.nextInt(fitting.length)];
    }

    private void any() {
        switch (random.nextInt(8)) {
            case 0 -> look();
            case 1, 2, 3 -> act();
            case 4, 5 -> attempt();
            case 6 -> observe();
            default -> images();
        }
    }

    private void look() {
        int what = near(4);
        int c = aChild();
        int d = aChild();
        int k = near(model.told(0));
        int t = aThing();
        same("told(4)", bags.told(4), model.told(4));
        int told = near(12);
        same("told(" + told + ")", bags.told(told), model.told(told));
        switch (random.nextInt(6)) {
            case 0 -> same("kind(" + k + ", " + what + ")", bags.kind(k, what), model.kind(k, what));
            case 1 -> same("child(" + c + ", " + what + ")", bags.child(c, what), model.child(c, what));
            case 2 -> same("gives(" + c + ", " + k + ")", bags.gives(c, k), model.gives(c, k));
            case 3 -> same("thing(" + t + ", " + what + ")", bags.thing(t, what), model.thing(t, what));
            case 4 -> same("envy(" + c + ", " + d + ")", bags.envy(c, d), model.envy(c, d));
            default -> same("fault()", bags.fault(), model.fault());
        }
    }

    private void act() {
        int c = aChild();
        int t = aThing();
        int u = aThing();
        int n = random.nextInt(5) == 0 ? near(61) : 1 + random.nextInt(6);
        switch (random.nextInt(14)) {
            case 0, 1, 2, 3 -> same("give(" + t + ", " + c + ")", bags.give(t, c), model.give(t, c));
            case 4, 5 -> same("take(" + t + ")", bags.take(t), model.take(t));
            case 6, 7, 8 -> same("swap(" + t + ", " + u + ")", bags.swap(t, u), model.swap(t, u));
            case 9 -> same("draw(" + c + ")", bags.draw(c), model.draw(c));
            case 10, 11 -> same("drift(" + n + ")", bags.drift(n), model.drift(n));
            default -> same("undo()", bags.undo(), model.undo());
        }
    }

    private void attempt() {
        int i = random.nextInt(6) - 2;
        int what = near(2);
        int t = aThingOrNone();
        int c = aChild();
        int order = anOrder();
        int n = random.nextBoolean() ? near(1000) : near(20);
        int m = n <= 0 ? near(2) : near(n + 1);
        // The model is slow over many ways.
        int bound = model.told(2) > 5 && random.nextInt(12) != 0 ? 13 : 14;
        switch (random.nextInt(bound)) {
            case 0, 1 -> same("swaps(" + i + ")", bags.swaps(i), model.swaps(i));
            case 2, 3 -> same("settled(" + what + ")", bags.settled(what), model.settled(what));
            case 4, 5 -> same("choice(" + order + ", " + t + ")", bags.choice(order, t), model.choice(order, t));
            case 6, 7 -> same("bestOrder(" + what + ")", bags.bestOrder(what), model.bestOrder(what));
            case 8 -> same("sweets(" + n + ", " + m + ")", bags.sweets(n, m), model.sweets(n, m));
            case 9 -> same("lasts(" + n + ")", bags.lasts(n), model.lasts(n));
            case 10 -> same("rises(" + n + ")", bags.rises(n), model.rises(n));
            case 11 -> same("spare(" + c + ")", bags.spare(c), model.spare(c));
            case 12 -> same("dry()", bags.dry(), model.dry());
            default -> same("share(" + t + ")", bags.share(t), model.share(t));
        }
    }

    private void observe() {
        int c = aChild();
        int d = aChild();
        int t = aThingOrNone();
        boolean envied = random.nextInt(3) == 0;
        int holder = random.nextInt(3) == 0 ? -1 : c;
        int bound = model.told(2) > 5 && random.nextInt(12) != 0 ? 9 : 13;
        switch (random.nextInt(bound)) {
            case 0, 1, 2 -> same("see(" + c + ", " + d + ", " + envied + ")", bags.see(c, d, envied), model.see(c, d, envied));
            case 3, 4, 5 -> same("write(" + t + ", " + holder + ")", bags.write(t, holder), model.write(t, holder));
            case 6, 7 -> same("judge()", bags.judge(), model.judge());
            case 8 -> {
                if (random.nextInt(4) == 0) {
                    same("tear()", bags.tear(), model.tear());
                }
            }
            case 9, 10 -> same("had(" + t + ")", bags.had(t), model.had(t));
            default -> same("watch()", bags.watch(), model.watch());
        }
    }

    private void images() {
        int i = near(2);
        int seed = random.nextInt();
        switch (random.nextInt(6)) {
            case 0 -> same("seed(" + seed + ")", bags.seed(seed), model.seed(seed));
            case 1 -> same("keep(" + i + ")", bags.keep(i), model.keep(i));
            case 2 -> same("goBack(" + i + ")", bags.goBack(i), model.goBack(i));
            default -> act();
        }
    }
}
