/** All that an object holds, told by its answers alone; the object is used up by it (some 330 calls at most). */
final class Whole {
    private final NineBags bags;
    private final StringBuilder all = new StringBuilder();

    private Whole(NineBags bags) {
        this.bags = bags;
    }

    /** What fault() answers is left out: a party() with a fault changes that alone. */
    static String of(NineBags bags) {
        Whole whole = new Whole(bags);
        whole.party();
        whole.hands();
        whole.seenAndTried();
        whole.past();
        whole.images();
        whole.book();
        whole.text();
        return whole.all.toString();
    }

    private void tell(int answer) {
        all.append(answer).append(' ');
    }

    private void party() {
        for (int what = 0; what <= 11; what++) {
            tell(bags.told(what));
        }
        for (int k = 0; k < bags.told(0); k++) {
            tell(bags.kind(k, 0));
            tell(bags.kind(k, 1));
        }
        for (int c = 0; c < bags.told(1); c++) {
            tell(bags.child(c, 0));
            tell(bags.child(c, 3));
            for (int k = 0; k < bags.told(0); k++) {
                tell(bags.gives(c, k));
            }
        }
        for (int t = 0; t < bags.told(2); t++) {
            tell(bags.thing(t, 0));
        }
    }

    private void hands() {
        all.append("hands ");
        for (int c = 0; c < 4; c++) {
            tell(bags.child(c, 1));
        }
        tell(bags.told(4));
    }

    private void seenAndTried() {
        all.append("seen ");
        tell(bags.had(NineBags.NONE));
        tell(bags.watch());
        tell(bags.share(NineBags.NONE));
        tell(bags.judge());
        int seed = bags.seed(0);
        tell(seed);
        bags.seed(seed);
    }

    private void past() {
        all.append("past ");
        int count = bags.told(11);
        for (int i = 0; i < count; i++) {
            tell(bags.undo());
            hands();
        }
        tell(bags.undo());
    }

    private void images() {
        for (int i = 0; i < 2; i++) {
            all.append("image ");
            tell(bags.goBack(i));
            hands();
            tell(bags.seed(0));
        }
    }

    /** What is WRONG while one thing after the other goes to child 0: the entries show by it. */
    private void book() {
        all.append("book ");
        int things = bags.told(2);
        for (int t = 0; t < things; t++) {
            tell(bags.judge());
            bags.give(t, 0);
        }
        tell(bags.tear());
    }

    private void text() {
        all.append("text ");
        tell(bags.party());
        tell(bags.fault());
        party();
    }
}
