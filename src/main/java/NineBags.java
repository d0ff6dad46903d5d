import java.util.Arrays;

/** A party and its bags: who has which thing, who envies whom, and what could come of it. */
public final class NineBags {
    public static final int NONE = -1, UNKNOWN = -1000000001, OUTSIDE = -1000000002, NOT = -1000000003, FULL = -1000000004;

    private static final int MOST_LETTERS = 240;
    private static final int MOST_LETTER = 255;
    private static final int MOST_KINDS = 5;
    private static final int MOST_CHILDREN = 4;
    private static final int MOST_THINGS = 7;
    private static final int MOST_PAIRS = MOST_CHILDREN * (MOST_CHILDREN - 1);
    private static final int MOST_COST = 999;
    private static final int MOST_DAYS = 99;
    private static final int MOST_BANNED = 31;
    private static final int MOST_PRICE = 99;
    private static final int MOST_UNDONE = 20;
    private static final int MOST_IMAGES = 2;
    private static final int MOST_SEEN = 6;
    private static final int MOST_WRITTEN = 15;
    private static final int MOST_SWEETS = 999;
    private static final int MOST_YEARS = 30;
    private static final int MOST_RISEN = 999999;
    private static final int MOST_DRIFTS = 60;
    private static final int MOST_SETTLING = 50;
    private static final int BILLION = 1000000000;

    private final Reader text = new Reader();
    private final Hands hands = new Hands();
    private final Worths worths = new Worths();
    private final Past past = new Past();
    private final Notebook notes = new Notebook();
    private final Trials trials = new Trials();
    private final Sharing sharing = new Sharing();
    private final Guess guess = new Guess();
    private Party party = new Party();
    private Party draft = new Party();
    private int chance = 0;

    public NineBags() {
    }

    // ---- the party

    public int feed(int letter) {
        if (letter < 0 || letter > MOST_LETTER) {
            return OUTSIDE;
        }
        if (text.isFull()) {
            return FULL;
        }
        text.append(letter);
        return text.length();
    }

    public int party() {
        int found = text.readInto(draft);
        text.clear();
        if (found != Reader.NO_FAULT) {
            return -10 - found;
        }
        Party old = party;
        party = draft;
        draft = old;
        hands.layAllOnTable();
        past.clear();
        notes.clear();
        sharing.forget();
        guess.forget();
        return party.children;
    }

    public int fault() {
        return text.faultPlace();
    }

    public int told(int what) {
        switch (what) {
            case 0: return party.kinds;
            case 1: return party.children;
            case 2: return party.things;
            case 3: return text.length();
            case 4: return hands.bagOf(NONE, party.things);
            case 5: return worthsNow().allGrudges(party);
            case 6: return worthsNow().tears(party);
            case 7: return hands.illOf(party);
            case 8: return party.pence();
            case 9: return notes.sights();
            case 10: return notes.entries();
            case 11: return past.size();
            default: return OUTSIDE;
        }
    }

    public int kind(int k, int what) {
        if (!party.hasKind(k)) {
            return UNKNOWN;
        }
        switch (what) {
            case 0: return party.costs[k];
            case 1: return party.days[k];
            default: return OUTSIDE;
        }
    }

    public int child(int c, int what) {
        if (!party.hasChild(c)) {
            return UNKNOWN;
        }
        switch (what) {
            case 0: return party.banned[c];
            case 1: return hands.bagOf(c, party.things);
            case 2: return worthsNow().of(c, c);
            case 3: return party.looks[c];
            default: return OUTSIDE;
        }
    }

    public int gives(int c, int k) {
        if (!party.hasChild(c) || !party.hasKind(k)) {
            return UNKNOWN;
        }
        return party.priceOf(c, k);
    }

    public int thing(int t, int what) {
        if (!party.hasThing(t)) {
            return UNKNOWN;
        }
        switch (what) {
            case 0: return party.kindOf[t];
            case 1: return hands.holderOf(t);
            default: return OUTSIDE;
        }
    }

    public int envy(int c, int d) {
        if (!party.hasPair(c, d)) {
            return UNKNOWN;
        }
        return worthsNow().grudge(party, c, d);
    }

    // ---- what is done

    public int give(int t, int c) {
        if (!party.hasThing(t) || !party.hasChild(c)) {
            return UNKNOWN;
        }
        past.remember(hands.packed());
        int holder = hands.holderOf(t);
        hands.put(t, c);
        return holder;
    }

    public int take(int t) {
        if (!party.hasThing(t)) {
            return UNKNOWN;
        }
        int holder = hands.holderOf(t);
        if (holder == NONE) {
            return NOT;
        }
        past.remember(hands.packed());
        hands.put(t, NONE);
        return holder;
    }

    public int swap(int t, int u) {
        if (!party.hasThing(t) || !party.hasThing(u) || t == u) {
            return UNKNOWN;
        }
        if (!hands.canExchange(t, u)) {
            return NOT;
        }
        int agreed = trials.agree(party, hands, t, u) ? 1 : 0;
        past.remember(hands.packed());
        hands.exchange(t, u);
        return agreed;
    }

    public int draw(int c) {
        if (!party.hasChild(c)) {
            return UNKNOWN;
        }
        int lying = hands.bagOf(NONE, party.things);
        if (lying == 0) {
            return NOT;
        }
        past.remember(hands.packed());
        int next = c;
        for (int t = 0; t < party.things; t++) {
            if (hands.holderOf(t) == NONE) {
                hands.put(t, next);
                next = next + 1 < party.children ? next + 1 : 0;
            }
        }
        return Integer.bitCount(lying);
    }

    public int drift(int n) {
        if (n < 1 || n > MOST_DRIFTS) {
            return OUTSIDE;
        }
        if (party.kinds == 0) {
            return NOT;
        }
        past.remember(hands.packed());
        if (party.children > 0 && party.things > 0) {
            for (int i = 0; i < n; i++) {
                int t = drawOf(party.things);
                int c = drawOf(party.children);
                hands.put(t, c);
            }
        }
        return worthsNow().allGrudges(party);
    }

    public int undo() {
        if (past.size() == 0) {
            return NOT;
        }
        hands.unpack(past.takeLatest());
        return past.size();
    }

    // ---- tried

    public int swaps(int i) {
        return i == NONE ? trials.countOfSwaps(party, hands) : trials.swapAt(party, hands, i);
    }

    public int settled(int what) {
        if (what < 0 || what > 1) {
            return OUTSIDE;
        }
        int done = trials.settle(party, hands);
        return what == 0 ? done : trials.tearsThen(party);
    }

    public int share(int t) {
        if (t != NONE && !party.hasThing(t)) {
            return UNKNOWN;
        }
        if (party.children == 0) {
            return NONE;
        }
        sharing.find(party);
        return t == NONE ? sharing.least() : sharing.holderOf(t);
    }

    public int choice(int order, int t) {
        if (!party.hasThing(t)) {
            return UNKNOWN;
        }
        if (!trials.isOrder(party, order)) {
            return OUTSIDE;
        }
        if (hands.holderOf(t) != NONE) {
            return NONE;
        }
        trials.choose(party, hands);
        return trials.holderThen(t);
    }

    public int bestOrder(int what) {
        if (what < 0 || what > 1) {
            return OUTSIDE;
        }
        if (party.children == 0) {
            return NONE;
        }
        int best = trials.bestOrderOf(party, hands);
        return what == 0 ? best : trials.leastByOrder();
    }

    public int sweets(int n, int m) {
        if (n < 0 || n > MOST_SWEETS || m < 0 || m > n) {
            return OUTSIDE;
        }
        int children = party.children;
        if (children <= 0) {
            return NONE;
        }
        int all = n + m;
        int each = all / children;
        // An odd part needs a short one for every child, so a smaller even part may do where a greater odd one does not.
        while (each > 0 && !canPart(n - m, m, each)) {
            each--;
        }
        return all - each * children;
    }

    public int lasts(int d) {
        if (d < 0 || d > MOST_DAYS) {
            return OUTSIDE;
        }
        int set = 0;
        for (int t = 0; t < party.things; t++) {
            if (party.days[party.kindOf[t]] >= d) {
                set |= 1 << t;
            }
        }
        return set;
    }

    public int rises(int n) {
        if (n < 0 || n > MOST_YEARS) {
            return OUTSIDE;
        }
        int pence = party.pence();
        for (int year = 0; year < n; year++) {
            pence = Math.min(pence + pence / 10, MOST_RISEN);
        }
        return pence;
    }

    public int spare(int c) {
        if (!party.hasChild(c)) {
            return UNKNOWN;
        }
        Worths now = worthsNow();
        int best = NONE;
        int least = 0;
        for (int k = 0; k < party.kinds; k++) {
            if (!party.isBanned(c, k)) {
                now.change(party, k, c, 1);
                int sum = now.allGrudges(party);
                now.change(party, k, c, -1);
                if (best == NONE || sum < least) {
                    best = k;
                    least = sum;
                }
            }
        }
        return best;
    }

    public int dry() {
        Worths now = worthsNow();
        long odds = BILLION;
        for (int c = 0; c < party.children; c++) {
            for (int d = 0; d < party.children; d++) {
                odds = odds * (100 - Math.min(100, now.grudge(party, c, d))) / 100;
            }
        }
        return (int) odds;
    }

    // ---- what is seen

    public int see(int c, int d, boolean envied) {
        if (!party.hasPair(c, d)) {
            return UNKNOWN;
        }
        if (!party.looksAt(c, d)) {
            return NOT;
        }
        if (notes.sights() >= MOST_SEEN) {
            return FULL;
        }
        notes.addSight(c, d, envied);
        guess.forget();
        return notes.sights();
    }

    public int had(int t) {
        if (t != NONE && !party.hasThing(t)) {
            return UNKNOWN;
        }
        guess.find(party, notes);
        return t == NONE ? guess.fitting() : guess.sureHolderOf(t);
    }

    public int watch() {
        guess.find(party, notes);
        return guess.bestPair(party);
    }

    public int write(int t, int c) {
        if (!party.hasThing(t) || (c != NONE && !party.hasChild(c))) {
            return UNKNOWN;
        }
        if (notes.entries() >= MOST_WRITTEN) {
            return FULL;
        }
        notes.addEntry(t, c);
        return notes.entries();
    }

    public int tear() {
        int both = notes.sights() + notes.entries();
        notes.clear();
        guess.forget();
        return both;
    }

    public int judge() {
        return notes.firstWrong(hands);
    }

    // ---- draws, images

    public int seed(int v) {
        if (v < 0) {
            return OUTSIDE;
        }
        int old = chance;
        chance = v;
        return old;
    }

    public int keep(int i) {
        if (i < 0 || i >= MOST_IMAGES) {
            return UNKNOWN;
        }
        past.keepImage(i, hands.packed(), chance);
        return 1;
    }

    public int goBack(int i) {
        if (i < 0 || i >= MOST_IMAGES) {
            return UNKNOWN;
        }
        if (!past.hasImage(i)) {
            return NOT;
        }
        hands.unpack(past.imageHands(i));
        chance = past.imageChance(i);
        past.forgetActs();
        return 1;
    }

    private Worths worthsNow() {
        worths.count(party, hands);
        return worths;
    }

    private int drawOf(int n) {
        chance = (int) ((chance * 1103515245L + 12345L) & 0x7fffffffL);
        return n > 0 ? chance / 65536 % n : 0;
    }

    private boolean canPart(int shortOnes, int longOnes, int each) {
        int longUsed = Math.min(longOnes, party.children * (each / 2));
        return party.children * each - 2 * longUsed <= shortOnes;
    }

    /** What a text tells: kinds, children, things; who has which thing is not part of it. */
    private static final class Party {
        private int kinds = 0;
        private int children = 0;
        private int things = 0;
        private int pairs = 0;
        private final int[] costs = new int[MOST_KINDS];
        private final int[] days = new int[MOST_KINDS];
        private final int[] banned = new int[MOST_CHILDREN];
        private final int[] looks = new int[MOST_CHILDREN];
        private final int[] prices = new int[MOST_CHILDREN * MOST_KINDS];
        // Prices less what is banned, and the pairs that look: kept ready, as thousands of ways ask for them.
        private final int[] worthsOfKinds = new int[MOST_CHILDREN * MOST_KINDS];
        private final int[] lookers = new int[MOST_PAIRS];
        private final int[] lookedAt = new int[MOST_PAIRS];
        private final int[] kindOf = new int[MOST_THINGS];

        void clear() {
            kinds = 0;
            children = 0;
            things = 0;
            pairs = 0;
        }

        void addKind(int cost, int lastingDays) {
            if (kinds < MOST_KINDS) {
                costs[kinds] = cost;
                days[kinds] = lastingDays;
                kinds++;
            }
        }

        /** Of the child that is to be added next; what is set is only used once it is added. */
        void setNextPrice(int k, int price) {
            if (children < MOST_CHILDREN && k >= 0 && k < MOST_KINDS) {
                prices[children * MOST_KINDS + k] = price;
            }
        }

        void addChild(int bannedKinds) {
            if (children < MOST_CHILDREN) {
                banned[children] = bannedKinds;
                looks[children] = 0;
                for (int k = 0; k < kinds; k++) {
                    worthsOfKinds[children * MOST_KINDS + k] = isBanned(children, k) ? 0 : priceOf(children, k);
                }
                children++;
            }
        }

        void addLook(int c, int d) {
            if (hasPair(c, d) && !looksAt(c, d) && pairs < MOST_PAIRS) {
                looks[c] |= 1 << d;
                lookers[pairs] = c;
                lookedAt[pairs] = d;
                pairs++;
            }
        }

        void addThing(int k) {
            if (things < MOST_THINGS && hasKind(k)) {
                kindOf[things] = k;
                things++;
            }
        }

        boolean hasKind(int k) {
            return k >= 0 && k < kinds;
        }

        boolean hasChild(int c) {
            return c >= 0 && c < children;
        }

        boolean hasThing(int t) {
            return t >= 0 && t < things;
        }

        boolean hasPair(int c, int d) {
            return hasChild(c) && hasChild(d) && c != d;
        }

        boolean looksAt(int c, int d) {
            return hasChild(c) && hasChild(d) && (looks[c] >> d & 1) != 0;
        }

        boolean isBanned(int c, int k) {
            return (banned[c] >> k & 1) != 0;
        }

        int priceOf(int c, int k) {
            return prices[c * MOST_KINDS + k];
        }

        int worthOfKind(int c, int k) {
            return worthsOfKinds[c * MOST_KINDS + k];
        }

        int worthOfThing(int c, int t) {
            return worthOfKind(c, kindOf[t]);
        }

        int pence() {
            int sum = 0;
            for (int t = 0; t < things; t++) {
                sum += costs[kindOf[t]];
            }
            return sum;
        }
    }

    /** Takes a text letter by letter, and reads it into a party up to its first fault. */
    private static final class Reader {
        private static final int NO_FAULT = 0;
        private static final int CANNOT_STAND = 1;
        private static final int BAD_NUMBER = 2;
        private static final int BAD_CLAUSE = 3;
        private static final int BAD_LOOK = 4;
        private static final int MOST_FIGURES = 3;
        private static final int END = -1;

        private final int[] letters = new int[MOST_LETTERS];
        private int count = 0;
        private int place = 0;
        private int numberPlace = 0;
        private int fault = NO_FAULT;
        private int faultPlace = NONE;

        int length() {
            return count;
        }

        boolean isFull() {
            return count >= MOST_LETTERS;
        }

        void append(int letter) {
            if (count < MOST_LETTERS) {
                letters[count] = letter;
                count++;
            }
        }

        void clear() {
            count = 0;
        }

        /** Of the text read latest, though it is cleared. */
        int faultPlace() {
            return faultPlace;
        }

        /** The fault's number; with one the party is of no use. */
        int readInto(Party party) {
            place = 0;
            fault = NO_FAULT;
            faultPlace = NONE;
            party.clear();
            skipBlanks();
            for (int clause = 0; clause < MOST_LETTERS && place < count && fault == NO_FAULT; clause++) {
                readClause(party);
                skipBlanks();
            }
            return fault;
        }

        private void readClause(Party party) {
            switch (letterHere()) {
                case 'k':
                    readKind(party);
                    break;
                case 'c':
                    readChild(party);
                    break;
                case 'l':
                    readLook(party);
                    break;
                case 't':
                    readThing(party);
                    break;
                default:
                    fail(CANNOT_STAND, place);
                    break;
            }
        }

        private void readKind(Party party) {
            if (party.kinds >= MOST_KINDS || party.children > 0) {
                fail(BAD_CLAUSE, place);
            }
            place++;
            int cost = readNumber(MOST_COST);
            int lastingDays = readNumber(MOST_DAYS);
            readSign(';');
            if (fault == NO_FAULT) {
                party.addKind(cost, lastingDays);
            }
        }

        private void readChild(Party party) {
            if (party.children >= MOST_CHILDREN || party.kinds == 0) {
                fail(BAD_CLAUSE, place);
            }
            place++;
            int bannedKinds = readNumber(MOST_BANNED);
            for (int k = 0; k < party.kinds; k++) {
                if (k > 0) {
                    readSign(',');
                }
                party.setNextPrice(k, readNumber(MOST_PRICE));
            }
            readSign(';');
            if (fault == NO_FAULT) {
                party.addChild(bannedKinds);
            }
        }

        private void readLook(Party party) {
            place++;
            int c = readNumber(party.children - 1);
            int d = readNumber(party.children - 1);
            if (c == d || party.looksAt(c, d)) {
                fail(BAD_LOOK, numberPlace);
            }
            readSign(';');
            if (fault == NO_FAULT) {
                party.addLook(c, d);
            }
        }

        private void readThing(Party party) {
            if (party.things >= MOST_THINGS) {
                fail(BAD_CLAUSE, place);
            }
            place++;
            int k = readNumber(party.kinds - 1);
            readSign(';');
            if (fault == NO_FAULT) {
                party.addThing(k);
            }
        }

        /** A number 0 .. most; with a fault, now or ahead, it answers 0. */
        private int readNumber(int most) {
            if (fault != NO_FAULT) {
                return 0;
            }
            skipBlanks();
            numberPlace = place;
            int number = 0;
            for (; place < count && isFigureHere(); place++) {
                if (place - numberPlace < MOST_FIGURES) {
                    number = number * 10 + letterHere() - '0';
                }
            }
            int figures = place - numberPlace;
            if (figures == 0) {
                fail(CANNOT_STAND, place);
            } else if (figures > MOST_FIGURES || number > most) {
                fail(BAD_NUMBER, numberPlace);
            }
            return fault == NO_FAULT ? number : 0;
        }

        private void readSign(int sign) {
            if (fault != NO_FAULT) {
                return;
            }
            skipBlanks();
            if (letterHere() == sign) {
                place++;
            } else {
                fail(CANNOT_STAND, place);
            }
        }

        private void skipBlanks() {
            while (place < count && letterHere() == ' ') {
                place++;
            }
        }

        private int letterHere() {
            return place >= 0 && place < count ? letters[place] : END;
        }

        private boolean isFigureHere() {
            return letterHere() >= '0' && letterHere() <= '9';
        }

        /** Reading goes from left to right, so that the fault found first is the one to tell. */
        private void fail(int number, int where) {
            if (fault == NO_FAULT) {
                fault = number;
                faultPlace = where;
            }
        }
    }

    /** Who has which thing. */
    private static final class Hands {
        private final int[] holder = new int[MOST_THINGS];

        Hands() {
            for (int t = 0; t < MOST_THINGS; t++) {
                holder[t] = NONE;
            }
        }

        void layAllOnTable() {
            Arrays.fill(holder, NONE);
        }

        int holderOf(int t) {
            return holder[t];
        }

        void put(int t, int c) {
            holder[t] = c;
        }

        boolean canExchange(int t, int u) {
            return holder[t] != NONE && holder[u] != NONE && holder[t] != holder[u];
        }

        void exchange(int t, int u) {
            int c = holder[t];
            holder[t] = holder[u];
            holder[u] = c;
        }

        /** The set of things that a child has; those on the table for NONE. */
        int bagOf(int c, int things) {
            int set = 0;
            for (int t = 0; t < things && t < MOST_THINGS; t++) {
                if (holder[t] == c) {
                    set |= 1 << t;
                }
            }
            return set;
        }

        int illOf(Party party) {
            int set = 0;
            for (int t = 0; t < party.things; t++) {
                int c = holder[t];
                if (party.hasChild(c) && party.isBanned(c, party.kindOf[t])) {
                    set |= 1 << c;
                }
            }
            return set;
        }

        void copy(Hands other) {
            System.arraycopy(other.holder, 0, holder, 0, MOST_THINGS);
        }

        /** All hands in one number, three bits a thing, so that acts and images are rows of numbers. */
        int packed() {
            int code = 0;
            for (int t = 0; t < MOST_THINGS; t++) {
                code |= holder[t] + 1 << 3 * t;
            }
            return code;
        }

        void unpack(int code) {
            for (int t = 0; t < MOST_THINGS; t++) {
                holder[t] = (code >> 3 * t & 7) - 1;
            }
        }
    }

    /** What each child's bag is worth to each child. */
    private static final class Worths {
        private final int[] worth = new int[MOST_CHILDREN * MOST_CHILDREN];

        void count(Party party, Hands hands) {
            Arrays.fill(worth, 0);
            for (int t = 0; t < party.things; t++) {
                change(party, party.kindOf[t], hands.holderOf(t), 1);
            }
        }

        /** A thing of kind k comes into a bag (by 1) or leaves it (by -1); the table is no bag. */
        void change(Party party, int k, int holder, int by) {
            if (!party.hasChild(holder)) {
                return;
            }
            for (int c = 0; c < party.children; c++) {
                worth[c * MOST_CHILDREN + holder] += by * party.worthOfKind(c, k);
            }
        }

        /** The worth to c of d's bag. */
        int of(int c, int d) {
            return worth[c * MOST_CHILDREN + d];
        }

        int grudge(Party party, int c, int d) {
            return party.looksAt(c, d) ? Math.max(0, lead(c, d)) : 0;
        }

        int allGrudges(Party party) {
            int sum = 0;
            for (int p = 0; p < party.pairs; p++) {
                sum += Math.max(0, lead(party.lookers[p], party.lookedAt[p]));
            }
            return sum;
        }

        int tears(Party party) {
            return Integer.bitCount(enviedPairs(party));
        }

        /** The set of pairs with envy, by pairBit. */
        int enviedPairs(Party party) {
            int set = 0;
            for (int p = 0; p < party.pairs; p++) {
                int c = party.lookers[p];
                int d = party.lookedAt[p];
                if (lead(c, d) > 0) {
                    set |= pairBit(c, d);
                }
            }
            return set;
        }

        /** By how much d's bag is worth more to c than its own. */
        private int lead(int c, int d) {
            return of(c, d) - of(c, c);
        }

        static int pairBit(int c, int d) {
            return 1 << c * MOST_CHILDREN + d;
        }
    }

    /** What can be undone, and the images; each a packed state of all hands. */
    private static final class Past {
        private final int[] acts = new int[MOST_UNDONE];
        private final int[] imageHands = new int[MOST_IMAGES];
        private final int[] imageChances = new int[MOST_IMAGES];
        private final boolean[] kept = new boolean[MOST_IMAGES];
        private int count = 0;

        void clear() {
            count = 0;
            for (int i = 0; i < MOST_IMAGES; i++) {
                kept[i] = false;
            }
        }

        void forgetActs() {
            count = 0;
        }

        int size() {
            return count;
        }

        void remember(int state) {
            if (count >= MOST_UNDONE) {
                System.arraycopy(acts, 1, acts, 0, MOST_UNDONE - 1);
                count = MOST_UNDONE - 1;
            }
            acts[count] = state;
            count++;
        }

        int takeLatest() {
            if (count > 0) {
                count--;
            }
            return acts[count];
        }

        void keepImage(int i, int state, int chance) {
            imageHands[i] = state;
            imageChances[i] = chance;
            kept[i] = true;
            forgetActs();
        }

        boolean hasImage(int i) {
            return kept[i];
        }

        int imageHands(int i) {
            return imageHands[i];
        }

        int imageChance(int i) {
            return imageChances[i];
        }
    }

    /** What was seen, and the book of who has things. */
    private static final class Notebook {
        private int seen = 0;
        private int envied = 0;
        private int calm = 0;
        private final int[] bookThings = new int[MOST_WRITTEN];
        private final int[] bookHolders = new int[MOST_WRITTEN];
        private int written = 0;

        void clear() {
            seen = 0;
            envied = 0;
            calm = 0;
            written = 0;
        }

        int sights() {
            return seen;
        }

        void addSight(int c, int d, boolean cried) {
            int bit = Worths.pairBit(c, d);
            if (cried) {
                envied |= bit;
            } else {
                calm |= bit;
            }
            seen++;
        }

        /** Whether all that was seen is so, where these pairs have envy. */
        boolean fits(int enviedPairs) {
            return (enviedPairs & envied) == envied && (enviedPairs & calm) == 0;
        }

        int entries() {
            return written;
        }

        void addEntry(int t, int c) {
            if (written < MOST_WRITTEN) {
                bookThings[written] = t;
                bookHolders[written] = c;
                written++;
            }
        }

        int firstWrong(Hands hands) {
            for (int e = 0; e < written; e++) {
                if (hands.holderOf(bookThings[e]) != bookHolders[e]) {
                    return e;
                }
            }
            return NONE;
        }
    }

    /** What would come of swaps and of choosing in turn; it works on hands of its own. */
    private static final class Trials {
        private final Hands then = new Hands();
        private final Worths worths = new Worths();
        private final int[] turns = new int[MOST_CHILDREN];
        private int leastByOrder = 0;

        int holderThen(int t) {
            return then.holderOf(t);
        }

        int tearsThen(Party party) {
            worths.count(party, then);
            return worths.tears(party);
        }

        int leastByOrder() {
            return leastByOrder;
        }

        boolean agree(Party party, Hands hands, int t, int u) {
            if (!hands.canExchange(t, u)) {
                return false;
            }
            int c = hands.holderOf(t);
            int d = hands.holderOf(u);
            int gainOfC = party.worthOfThing(c, u) - party.worthOfThing(c, t);
            int gainOfD = party.worthOfThing(d, t) - party.worthOfThing(d, u);
            return gainOfC >= 0 && gainOfD >= 0 && gainOfC + gainOfD > 0;
        }

        int countOfSwaps(Party party, Hands hands) {
            int count = 0;
            for (int t = 0; t < party.things; t++) {
                for (int u = t + 1; u < party.things; u++) {
                    if (agree(party, hands, t, u)) {
                        count++;
                    }
                }
            }
            return count;
        }

        int swapAt(Party party, Hands hands, int i) {
            int passed = 0;
            for (int t = 0; t < party.things; t++) {
                for (int u = t + 1; u < party.things; u++) {
                    if (agree(party, hands, t, u)) {
                        if (passed == i) {
                            return 10 * t + u;
                        }
                        passed++;
                    }
                }
            }
            return NONE;
        }

        int settle(Party party, Hands hands) {
            then.copy(hands);
            for (int done = 0; done < MOST_SETTLING; done++) {
                int first = swapAt(party, then, 0);
                if (first == NONE) {
                    return done;
                }
                then.exchange(first / 10, first % 10);
            }
            return MOST_SETTLING;
        }

        /** Whether this number is an order; if so, the turns are set by it. */
        boolean isOrder(Party party, int order) {
            int rest = order;
            int met = 0;
            for (int turn = party.children - 1; turn >= 0; turn--) {
                int c = rest % 10 - 1;
                if (!party.hasChild(c) || (met >> c & 1) != 0) {
                    return false;
                }
                met |= 1 << c;
                turns[turn] = c;
                rest /= 10;
            }
            return rest == 0 && party.children > 0;
        }

        /** By the turns that isOrder() set. */
        void choose(Party party, Hands hands) {
            then.copy(hands);
            int turn = 0;
            for (int picked = 0; picked < party.things; picked++) {
                int t = favourite(party, turns[turn]);
                if (t == NONE) {
                    return;
                }
                then.put(t, turns[turn]);
                turn = turn + 1 < party.children ? turn + 1 : 0;
            }
        }

        private int favourite(Party party, int c) {
            int best = NONE;
            int most = 0;
            for (int t = 0; t < party.things; t++) {
                if (then.holderOf(t) == NONE) {
                    int worth = party.worthOfThing(c, t);
                    if (best == NONE || worth > most) {
                        best = t;
                        most = worth;
                    }
                }
            }
            return best;
        }

        int bestOrderOf(Party party, Hands hands) {
            int first = 0;
            int last = 0;
            for (int c = 0; c < party.children; c++) {
                first = first * 10 + c + 1;
                last = last * 10 + party.children - c;
            }
            int best = NONE;
            // All orders have the same figures, so they lie nines apart.
            for (int order = first; order <= last; order += 9) {
                if (isOrder(party, order)) {
                    choose(party, hands);
                    worths.count(party, then);
                    int sum = worths.allGrudges(party);
                    if (best == NONE || sum < leastByOrder) {
                        best = order;
                        leastByOrder = sum;
                    }
                }
            }
            return best;
        }
    }

    /** Goes through all ways to give all things to children, the lesser child first, thing 0 turning slowest. */
    private static final class Ways {
        private final Hands hands = new Hands();
        private final Worths worths = new Worths();

        static int countOf(Party party) {
            if (party.children == 0) {
                return 0;
            }
            int count = 1;
            for (int t = 0; t < party.things; t++) {
                count *= party.children;
            }
            return count;
        }

        void start(Party party) {
            for (int t = 0; t < party.things; t++) {
                hands.put(t, 0);
            }
            worths.count(party, hands);
        }

        void advance(Party party) {
            for (int t = party.things - 1; t >= 0; t--) {
                int old = hands.holderOf(t);
                int next = old + 1 < party.children ? old + 1 : 0;
                worths.change(party, party.kindOf[t], old, -1);
                worths.change(party, party.kindOf[t], next, 1);
                hands.put(t, next);
                if (next != 0) {
                    return;
                }
            }
        }

        /** Whether no child has more than one thing more than another one. */
        boolean isEven(Party party) {
            int most = 0;
            int fewest = MOST_THINGS;
            for (int c = 0; c < party.children; c++) {
                int size = Integer.bitCount(hands.bagOf(c, party.things));
                most = Math.max(most, size);
                fewest = Math.min(fewest, size);
            }
            return most - fewest <= 1;
        }
    }

    /** The even way by which least is envied; it hangs on the party alone, so it is found once for each. */
    private static final class Sharing {
        private final Ways ways = new Ways();
        private final Hands best = new Hands();
        private int least = 0;
        private boolean known = false;

        void forget() {
            known = false;
        }

        void find(Party party) {
            if (known) {
                return;
            }
            int count = Ways.countOf(party);
            boolean met = false;
            ways.start(party);
            for (int w = 0; w < count; w++) {
                if (ways.isEven(party)) {
                    int sum = ways.worths.allGrudges(party);
                    if (!met || sum < least) {
                        met = true;
                        least = sum;
                        best.copy(ways.hands);
                    }
                }
                ways.advance(party);
            }
            known = true;
        }

        int least() {
            return least;
        }

        int holderOf(int t) {
            return best.holderOf(t);
        }
    }

    /** All ways that fit what was seen; kept till something else is seen. */
    private static final class Guess {
        private final Ways ways = new Ways();
        private final Hands sure = new Hands();
        private final int[] enviedWays = new int[MOST_CHILDREN * MOST_CHILDREN];
        private int fitting = 0;
        private boolean known = false;

        void forget() {
            known = false;
        }

        void find(Party party, Notebook notes) {
            if (known) {
                return;
            }
            fitting = 0;
            sure.layAllOnTable();
            Arrays.fill(enviedWays, 0);
            int count = Ways.countOf(party);
            ways.start(party);
            for (int w = 0; w < count; w++) {
                int envied = ways.worths.enviedPairs(party);
                if (notes.fits(envied)) {
                    addWay(party, envied);
                }
                ways.advance(party);
            }
            known = true;
        }

        private void addWay(Party party, int envied) {
            for (int t = 0; t < party.things; t++) {
                if (fitting == 0) {
                    sure.put(t, ways.hands.holderOf(t));
                } else if (sure.holderOf(t) != ways.hands.holderOf(t)) {
                    sure.put(t, NONE);
                }
            }
            for (int pair = 0; pair < enviedWays.length; pair++) {
                enviedWays[pair] += envied >> pair & 1;
            }
            fitting++;
        }

        int fitting() {
            return fitting;
        }

        int sureHolderOf(int t) {
            return sure.holderOf(t);
        }

        int bestPair(Party party) {
            int best = NONE;
            int least = fitting;
            for (int c = 0; c < party.children; c++) {
                for (int d = 0; d < party.children; d++) {
                    int envied = enviedWays[c * MOST_CHILDREN + d];
                    int greatest = Math.max(envied, fitting - envied);
                    if (party.looksAt(c, d) && greatest < least) {
                        best = 10 * c + d;
                        least = greatest;
                    }
                }
            }
            return best;
        }
    }
}
