import java.util.ArrayList;
import java.util.List;
import java.util.Random;
import java.util.regex.Matcher;
import java.util.regex.Pattern;

/**
 * Every short ending behind some starts, and good texts with a few letters changed, against a second finding of the
 * first fault that reads no clauses: a letter cannot stand there, if no good text goes on from it.
 */
public final class EveryTextTest {
    private static final String LETTERS = "kclt013;, x";
    private static final int ENDING = 4;
    private static final int CALLS = 512;
    private static final String[] STARTS = {
        "", "k", "k9", "k99 9", "k1 1;", "k1 1;c", "k1 1;c3", "k1 1;c0 9", "k1 1;k1 1;c0 9", "k1 1;k1 1;c0 9,9",
        "k1 1;c0 1;", "k1 1;c0 1;c0 1;l", "k1 1;c0 1;c0 1;l0 ", "k1 1;c0 1;c0 1;l0 1;", "k1 1;t0;", "k1 1;k1 1;t",
        "k1 1;t0;t0;t0;t0;t0;t0;", "k1 1;t0;t0;t0;t0;t0;t0;t0;", "k1 1;k1 1;k1 1;k1 1;", "k1 1;k1 1;k1 1;k1 1;k1 1;",
        "k1 1;c0 1;c0 1;c0 1;", "k1 1;c0 1;c0 1;c0 1;c0 1;", "k1 1;c0 1;c0 1;c0 1;c0 1;l0 3;l3 0;"};
    private static final String[] GOOD = {
        Check.NINE, "k999 99;k0 0;c31 99,0;c0 0,99;t1;l1 0;t0;l0 1;", " k 1  2 ; t 0 ; c 1 2 ; c 0 3 ; l 0 1 ; ",
        "k1 1;k2 2;k3 3;k4 4;k5 5;c0 1,2,3,4,5;c31 5,4,3,2,1;c1 0,0,0,0,0;c2 9,9,9,9,9;l0 3;l3 0;l2 1;"
            + "t4;t3;t2;t1;t0;t0;t1;"};
    private static final int CHANGED = 40000;

    private static NineBags bags = new NineBags();
    private static int calls = 0;

    public static void main(String[] args) {
        for (String start : STARTS) {
            endings(start, ENDING);
        }
        changedTexts(new Random(9));
        Check.finish("EveryTextTest");
    }

    private static void endings(String text, int more) {
        compare(text);
        if (more > 0) {
            for (int i = 0; i < LETTERS.length(); i++) {
                endings(text + LETTERS.charAt(i), more - 1);
            }
        }
    }

    private static void changedTexts(Random chance) {
        for (int i = 0; i < CHANGED; i++) {
            StringBuilder text = new StringBuilder(GOOD[chance.nextInt(GOOD.length)]);
            for (int changes = chance.nextInt(3); changes >= 0 && text.length() > 0; changes--) {
                int place = chance.nextInt(text.length());
                char letter = LETTERS.charAt(chance.nextInt(LETTERS.length()));
                switch (chance.nextInt(4)) {
                    case 0 -> text.deleteCharAt(place);
                    case 1 -> text.insert(place, letter);
                    case 2 -> text.setCharAt(place, letter);
                    default -> text.setLength(place + 1);
                }
            }
            compare(text.toString());
        }
    }

    private static void compare(String text) {
        if (calls + text.length() + 2 > CALLS) {
            bags = new NineBags();
            calls = 0;
        }
        for (int i = 0; i < text.length(); i++) {
            bags.feed(text.charAt(i));
        }
        calls += text.length() + 2;
        Found due = Found.in(text);
        Check.due("party() of '" + text + "'", bags.party(), due.fault == 0 ? due.children : -10 - due.fault);
        Check.due("fault() of '" + text + "'", bags.fault(), due.place);
    }

    /** The first fault of a text, found over its words and numbers. */
    private static final class Found {
        private static final Pattern PART = Pattern.compile("[0-9]+|[^0-9 ]");
        private int fault = 0;
        private int place = -1;
        private int kinds = 0;
        private int children = 0;
        private int things = 0;
        private final List<String> pairs = new ArrayList<>();

        static Found in(String text) {
            Found found = new Found();
            found.find(text);
            return found;
        }

        private void find(String text) {
            StringBuilder form = new StringBuilder();
            List<Integer> numbers = new ArrayList<>();
            Matcher part = PART.matcher(text);
            while (fault == 0 && part.find()) {
                boolean isNumber = Character.isDigit(part.group().charAt(0));
                form.append(isNumber ? "9" : part.group());
                place = part.start();
                if (!goesOn(form)) {
                    fault = 1;
                } else if (isNumber) {
                    numbers.add(part.group().length() > 3 ? 9999 : Integer.parseInt(part.group()));
                    fault = faultOfNumber(clauseOf(form), numbers);
                } else if (part.group().equals(";")) {
                    endClause(clauseOf(form), numbers);
                } else {
                    fault = faultOfWord(part.group());
                }
            }
            if (fault == 0) {
                boolean isWhole = formOfAll().matcher(form).matches();
                fault = isWhole ? 0 : 1;
                place = isWhole ? -1 : text.length();
            }
        }

        /** How a text with so many kinds looks, each number a 9. */
        private Pattern formOfAll() {
            return Pattern.compile("(k99;|c99(,9){" + Math.max(0, kinds - 1) + "};|l99;|t9;)*");
        }

        private boolean goesOn(StringBuilder form) {
            Matcher matcher = formOfAll().matcher(form);
            return matcher.matches() || matcher.hitEnd();
        }

        /** The letter of the clause in which a form ends, though it be its last sign. */
        private static char clauseOf(StringBuilder form) {
            int start = form.lastIndexOf(";", form.length() - 2) + 1;
            return form.charAt(start);
        }

        private int faultOfWord(String word) {
            boolean isBad = word.equals("k") && (kinds == 5 || children > 0)
                    || word.equals("c") && (children == 4 || kinds == 0)
                    || word.equals("t") && things == 7;
            return isBad ? 3 : 0;
        }

        private int faultOfNumber(char clause, List<Integer> numbers) {
            int last = numbers.size() - 1;
            boolean isFirst = last == 0;
            int most = switch (clause) {
                case 'k' -> isFirst ? 999 : 99;
                case 'c' -> isFirst ? 31 : 99;
                case 'l' -> children - 1;
                default -> kinds - 1;
            };
            if (numbers.get(last) > most) {
                return 2;
            }
            boolean isBadLook = clause == 'l' && !isFirst
                    && (numbers.get(0).equals(numbers.get(1)) || pairs.contains(numbers.toString()));
            return isBadLook ? 4 : 0;
        }

        private void endClause(char clause, List<Integer> numbers) {
            switch (clause) {
                case 'k' -> kinds++;
                case 'c' -> children++;
                case 't' -> things++;
                default -> pairs.add(numbers.toString());
            }
            numbers.clear();
        }
    }
}
