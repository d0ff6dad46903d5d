import java.util.Set;
import java.util.TreeSet;

/** Counts what was asked and what was answered otherwise than due. */
final class Check {
    static final String NINE = "k100 9;k250 2;k40 30;c0 5,9,1;c4 7,3,8;c0 2,2,6;l0 1;l1 0;l2 0;l2 1;t0;t0;t1;t2;t2;";

    private static int asked = 0;
    private static int wrong = 0;
    private static final Set<String> SENTENCES = new TreeSet<>();
    private static String sentence = "";

    private Check() {
    }

    /** What is asked from here on holds these words of the document; they are told with what goes wrong. */
    static void sentence(String words) {
        SENTENCES.add(words);
        sentence = "\"" + words + "\": ";
    }

    static void due(String what, long got, long want) {
        asked++;
        if (got != want) {
            tellWrong(what, "" + got, "" + want);
        }
    }

    static void due(String what, String got, String want) {
        asked++;
        if (!got.equals(want)) {
            tellWrong(what, got, want);
        }
    }

    private static void tellWrong(String what, String got, String want) {
        wrong++;
        System.out.println(sentence + what + " answered " + got + ", due is " + want);
    }

    static void due(String what, boolean holds) {
        due(what, holds ? 1 : 0, 1);
    }

    static boolean isFine() {
        return wrong == 0;
    }

    static void feedAll(NineBags bags, String text) {
        for (int i = 0; i < text.length(); i++) {
            due("feed of letter " + i + " of '" + text + "'", bags.feed(text.charAt(i)), i + 1);
        }
    }

    /** A text of so many letters: blanks, and these words at its end. */
    static String atEndOf(int letters, String words) {
        return " ".repeat(letters - words.length()) + words;
    }

    /** A new object whose party this text tells. */
    static NineBags partyOf(String text, int children) {
        NineBags bags = new NineBags();
        feedAll(bags, text);
        due("party() of '" + text + "'", bags.party(), children);
        due("fault() of '" + text + "'", bags.fault(), NineBags.NONE);
        return bags;
    }

    /** This text has this fault, at this letter. */
    static void faultOf(String text, int fault, int place) {
        NineBags bags = new NineBags();
        feedAll(bags, text);
        due("party() of '" + text + "'", bags.party(), -10 - fault);
        due("fault() of '" + text + "'", bags.fault(), place);
        due("letters behind '" + text + "'", bags.told(3), 0);
    }

    /** Prints how it went; ends the program with 1 if anything was wrong. */
    static void finish(String name) {
        String held = SENTENCES.isEmpty() ? "" : SENTENCES.size() + " sentences, ";
        System.out.println(name + ": " + held + asked + " asked, " + wrong + " wrong");
        if (wrong != 0 || asked == 0) {
            System.exit(1);
        }
    }
}
