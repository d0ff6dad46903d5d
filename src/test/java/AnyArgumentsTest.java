/** No call ever throws, whatever it is given, in any state; what is refused changes nothing. */
public final class AnyArgumentsTest {
    private static final int[] NUMBERS = {
        Integer.MIN_VALUE, Integer.MIN_VALUE + 1, -1000000003, -100, -12, -2, -1, 0, 1, 2, 3, 4, 5, 6, 7, 8, 9, 11, 12, 20, 21,
        30, 31, 60, 61, 99, 100, 123, 240, 255, 256, 321, 999, 1000, 1234, 4321, 12345, 1000000000, Integer.MAX_VALUE};
    private static final String[] TEXTS = {
        "", "k1 1;", "k1 1;t0;t0;", "k1 1;c0 5;", "k1 1;c1 5;t0;", Check.NINE,
        "k999 99;k0 0;k5 1;k7 7;k300 50;c31 99,99,99,99,99;c0 0,0,0,0,0;c1 50,1,50,1,50;c16 1,2,3,4,5;"
            + "l0 1;l0 2;l0 3;l1 0;l1 2;l1 3;l2 0;l2 1;l2 3;l3 0;l3 1;l3 2;t0;t1;t2;t3;t4;t0;t1;"};
    private static final int CALLS = 34;
    private static final int LAST_OF_NONE = 5;
    private static final int FIRST_OF_TWO = 22;
    // An object is used for 512 calls at most: up to 180 make it, some 50 are used by each trial.
    private static final int TRIALS = 6;

    public static void main(String[] args) {
        for (String text : TEXTS) {
            for (int given = 0; given < 2; given++) {
                for (int call = 0; call < CALLS; call++) {
                    tryAll(text, given == 1, call);
                }
            }
        }
        Check.finish("AnyArgumentsTest");
    }

    private static NineBags made(String text, boolean given) {
        NineBags bags = new NineBags();
        for (int i = 0; i < text.length(); i++) {
            bags.feed(text.charAt(i));
        }
        bags.party();
        if (given) {
            bags.draw(0);
            bags.drift(7);
            bags.see(0, 1, true);
            bags.write(0, 0);
            bags.keep(0);
            bags.give(0, 0);
        }
        return bags;
    }

    private static void tryAll(String text, boolean given, int call) {
        int firsts = call <= LAST_OF_NONE ? 1 : NUMBERS.length;
        int seconds = call < FIRST_OF_TWO ? 1 : NUMBERS.length;
        NineBags bags = null;
        for (int i = 0; i < firsts * seconds; i++) {
            if (bags == null || i % TRIALS == 0) {
                bags = made(text, given);
            }
            int a = NUMBERS[i / seconds];
            int b = NUMBERS[i % seconds];
            tryOne(bags, call, a, b, "of '" + text + "': call " + call + " (" + a + ", " + b + ")");
        }
    }

    private static void tryOne(NineBags bags, int call, int a, int b, String what) {
        String ahead = stateOf(bags);
        int answer;
        try {
            answer = called(bags, call, a, b);
        } catch (RuntimeException e) {
            Check.due(what + " threw " + e, false);
            return;
        }
        boolean refused = answer <= NineBags.UNKNOWN;
        Check.due(what + " answered " + answer, answer >= NineBags.FULL);
        if (refused) {
            Check.due(what + " was refused but changed something", stateOf(bags).equals(ahead));
        }
    }

    private static String stateOf(NineBags bags) {
        StringBuilder state = new StringBuilder();
        for (int what = 0; what <= 11; what++) {
            state.append(bags.told(what)).append(' ');
        }
        for (int t = 0; t < 7; t++) {
            state.append(bags.thing(t, 1)).append(' ');
        }
        int seed = bags.seed(0);
        bags.seed(seed);
        return state.append(seed).append(' ').append(bags.fault()).append(' ').append(bags.judge()).toString();
    }

    /** The calls that take nothing first, those that take two numbers last. */
    private static int called(NineBags bags, int call, int a, int b) {
        switch (call) {
            case 0: return bags.fault();
            case 1: return bags.undo();
            case 2: return bags.dry();
            case 3: return bags.watch();
            case 4: return bags.tear();
            case 5: return bags.judge();
            case 6: return bags.feed(a);
            case 7: return bags.told(a);
            case 8: return bags.take(a);
            case 9: return bags.draw(a);
            case 10: return bags.drift(a);
            case 11: return bags.swaps(a);
            case 12: return bags.settled(a);
            case 13: return bags.share(a);
            case 14: return bags.bestOrder(a);
            case 15: return bags.lasts(a);
            case 16: return bags.rises(a);
            case 17: return bags.spare(a);
            case 18: return bags.had(a);
            case 19: return bags.seed(a);
            case 20: return bags.keep(a);
            case 21: return bags.goBack(a);
            case 22: return bags.kind(a, b);
            case 23: return bags.child(a, b);
            case 24: return bags.gives(a, b);
            case 25: return bags.thing(a, b);
            case 26: return bags.envy(a, b);
            case 27: return bags.give(a, b);
            case 28: return bags.swap(a, b);
            case 29: return bags.choice(a, b);
            case 30: return bags.sweets(a, b);
            case 31: return bags.see(a, b, true);
            case 32: return bags.see(a, b, false);
            default: return bags.write(a, b);
        }
    }
}
