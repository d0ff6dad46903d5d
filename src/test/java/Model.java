import java.util.ArrayDeque;
import java.util.ArrayList;
import java.util.Arrays;
import java.util.Deque;
import java.util.List;
import java.util.TreeMap;

/** The document once more, as plainly as it can be said, with no care for speed: what answers are compared with. */
final class Model {
    private static final int NONE = -1;
    private static final int UNKNOWN = -1000000001;
    private static final int OUTSIDE = -1000000002;
    private static final int NOT = -1000000003;
    private static final int FULL = -1000000004;

    private record Kind(int pence, int days) { }

    private record Child(int banned, List<Integer> prices, List<Integer> looks) { }

    private record Sight(int c, int d, boolean envied) { }

    private record Entry(int t, int c) { }

    private record Image(int[] holders, long seed) { }

    private record Token(int place, char first, String figures) { }

    private static final class Fault extends Exception {
        private static final long serialVersionUID = 1;
        private final int number;
        private final int place;

        Fault(int number, int place) {
            this.number = number;
            this.place = place;
        }
    }

    private StringBuilder text = new StringBuilder();
    private int faultPlace = NONE;
    private List<Kind> kinds = new ArrayList<>();
    private List<Child> children = new ArrayList<>();
    private List<Integer> things = new ArrayList<>();
    private int[] holders = new int[0];
    private long seed = 0;
    private final List<Sight> sights = new ArrayList<>();
    private final List<Entry> book = new ArrayList<>();
    private final Deque<int[]> past = new ArrayDeque<>();
    private final TreeMap<Integer, Image> images = new TreeMap<>();

    // ---- the text

    int feed(int letter) {
        if (letter < 0 || letter > 255) return OUTSIDE;
        if (text.length() == 240) return FULL;
        text.append((char) letter);
        return text.length();
    }

    int party() {
        String told = text.toString();
        text = new StringBuilder();
        Model fresh = new Model();
        try {
            fresh.tell(tokens(told), told.length());
        } catch (Fault f) {
            faultPlace = f.place;
            return -10 - f.number;
        }
        faultPlace = NONE;
        kinds = fresh.kinds;
        children = fresh.children;
        things = fresh.things;
        holders = new int[things.size()];
        Arrays.fill(holders, NONE);
        sights.clear();
        book.clear();
        past.clear();
        images.clear();
        return children.size();
    }

    private static List<Token> tokens(String told) {
        List<Token> list = new ArrayList<>();
        int i = 0;
        while (i < told.length()) {
            char ch = told.charAt(i);
            int end = i;
            while (end < told.length() && "0123456789".indexOf(told.charAt(end)) >= 0) end++;
            if (end > i) {
                list.add(new Token(i, '9', told.substring(i, end)));
                i = end;
            } else {
                if (ch != ' ') list.add(new Token(i, ch, ""));
                i++;
            }
        }
        return list;
    }

    private void tell(List<Token> list, int end) throws Fault {
        Deque<Token> rest = new ArrayDeque<>(list);
        while (!rest.isEmpty()) {
            Token word = rest.poll();
            if (!word.figures.isEmpty() || "kclt".indexOf(word.first) < 0) throw new Fault(1, word.place);
            boolean tooMany = word.first == 'k' && (kinds.size() == 5 || !children.isEmpty())
                || word.first == 'c' && (children.size() == 4 || kinds.isEmpty())
                || word.first == 't' && things.size() == 7;
            if (tooMany) throw new Fault(3, word.place);
            if (word.first == 'k') {
                int pence = number(rest, end, 999);
                kinds.add(new Kind(pence, number(rest, end, 99)));
            } else if (word.first == 'c') {
                int banned = number(rest, end, 31);
                List<Integer> prices = new ArrayList<>();
                prices.add(number(rest, end, 99));
                while (prices.size() < kinds.size()) {
                    sign(rest, end, ',');
                    prices.add(number(rest, end, 99));
                }
                children.add(new Child(banned, prices, new ArrayList<>()));
            } else if (word.first == 'l') {
                List<Integer> looks = null;
                int c = number(rest, end, children.size() - 1);
                looks = children.get(c).looks;
                int place = rest.isEmpty() ? end : rest.peek().place;
                int d = number(rest, end, children.size() - 1);
                if (c == d || looks.contains(d)) throw new Fault(4, place);
                looks.add(d);
            } else {
                things.add(number(rest, end, kinds.size() - 1));
            }
            sign(rest, end, ';');
        }
    }

    private static int number(Deque<Token> rest, int end, int most) throws Fault {
        Token token = rest.poll();
        if (token == null) throw new Fault(1, end);
        if (token.figures.isEmpty()) throw new Fault(1, token.place);
        if (token.figures.length() > 3 || Integer.parseInt(token.figures) > most) throw new Fault(2, token.place);
        return Integer.parseInt(token.figures);
    }

    private static void sign(Deque<Token> rest, int end, char sign) throws Fault {
        Token token = rest.poll();
        if (token == null) throw new Fault(1, end);
        if (!token.figures.isEmpty() || token.first != sign) throw new Fault(1, token.place);
    }

    int fault() {
        return faultPlace;
    }

    // ---- what is so

    private boolean isKind(int k) {
        return k >= 0 && k < kinds.size();
    }

    private boolean isChild(int c) {
        return c >= 0 && c < children.size();
    }

    private boolean isThing(int t) {
        return t >= 0 && t < things.size();
    }

    private int value(int c, int k) {
        return (children.get(c).banned & 1 << k) != 0 ? 0 : children.get(c).prices.get(k);
    }

    private int worth(int[] who, int owner, int judge) {
        int sum = 0;
        for (int t = 0; t < who.length; t++) {
            if (who[t] == owner) sum += value(judge, things.get(t));
        }
        return sum;
    }

    private int envyIn(int[] who, int c, int d) {
        if (!children.get(c).looks.contains(d)) return 0;
        return Math.max(0, worth(who, d, c) - worth(who, c, c));
    }

    private int envyOfAll(int[] who) {
        int sum = 0;
        for (int c = 0; c < children.size(); c++) {
            for (int d = 0; d < children.size(); d++) sum += envyIn(who, c, d);
        }
        return sum;
    }

    private int tearsOf(int[] who) {
        int count = 0;
        for (int c = 0; c < children.size(); c++) {
            for (int d = 0; d < children.size(); d++) if (envyIn(who, c, d) > 0) count++;
        }
        return count;
    }

    private int bag(int owner) {
        int set = 0;
        for (int t = 0; t < holders.length; t++) if (holders[t] == owner) set += 1 << t;
        return set;
    }

    private int costs() {
        return things.stream().mapToInt(k -> kinds.get(k).pence).sum();
    }

    private int ill() {
        int set = 0;
        for (int c = 0; c < children.size(); c++) {
            for (int t = 0; t < holders.length; t++) {
                if (holders[t] == c && (children.get(c).banned & 1 << things.get(t)) != 0) set |= 1 << c;
            }
        }
        return set;
    }

    int told(int what) {
        int[] all = {kinds.size(), children.size(), things.size(), text.length(), bag(NONE), envyOfAll(holders),
            tearsOf(holders), ill(), costs(), sights.size(), book.size(), past.size()};
        return what < 0 || what >= all.length ? OUTSIDE : all[what];
    }

    int kind(int k, int what) {
        if (!isKind(k)) return UNKNOWN;
        return what == 0 ? kinds.get(k).pence : what == 1 ? kinds.get(k).days : OUTSIDE;
    }

    int child(int c, int what) {
        if (!isChild(c)) return UNKNOWN;
        int looks = children.get(c).looks.stream().mapToInt(d -> 1 << d).sum();
        int[] all = {children.get(c).banned, bag(c), worth(holders, c, c), looks};
        return what < 0 || what > 3 ? OUTSIDE : all[what];
    }

    int gives(int c, int k) {
        return isChild(c) && isKind(k) ? children.get(c).prices.get(k) : UNKNOWN;
    }

    int thing(int t, int what) {
        if (!isThing(t)) return UNKNOWN;
        return what == 0 ? things.get(t) : what == 1 ? holders[t] : OUTSIDE;
    }

    int envy(int c, int d) {
        return isChild(c) && isChild(d) && c != d ? envyIn(holders, c, d) : UNKNOWN;
    }

    // ---- what is done

    private void remember() {
        past.addLast(holders.clone());
        if (past.size() > 20) past.removeFirst();
    }

    int give(int t, int c) {
        if (!isThing(t) || !isChild(c)) return UNKNOWN;
        remember();
        int old = holders[t];
        holders[t] = c;
        return old;
    }

    int take(int t) {
        if (!isThing(t)) return UNKNOWN;
        if (holders[t] == NONE) return NOT;
        remember();
        int old = holders[t];
        holders[t] = NONE;
        return old;
    }

    private int[] swappedIn(int[] who, int t, int u) {
        int[] other = who.clone();
        other[t] = who[u];
        other[u] = who[t];
        return other;
    }

    private boolean areAgreed(int[] who, int t, int u) {
        int[] other = swappedIn(who, t, u);
        int c = who[t];
        int d = who[u];
        int byC = worth(other, c, c) - worth(who, c, c);
        int byD = worth(other, d, d) - worth(who, d, d);
        return byC >= 0 && byD >= 0 && (byC > 0 || byD > 0);
    }

    int swap(int t, int u) {
        if (!isThing(t) || !isThing(u) || t == u) return UNKNOWN;
        if (holders[t] == NONE || holders[u] == NONE || holders[t] == holders[u]) return NOT;
        remember();
        int agreed = areAgreed(holders, t, u) ? 1 : 0;
        holders = swappedIn(holders, t, u);
        return agreed;
    }

    int draw(int c) {
        if (!isChild(c)) return UNKNOWN;
        if (bag(NONE) == 0) return NOT;
        remember();
        int count = 0;
        for (int t = 0; t < holders.length; t++) {
            if (holders[t] == NONE) holders[t] = (c + count++) % children.size();
        }
        return count;
    }

    private int drawOf(int n) {
        seed = (seed * 1103515245L + 12345L) % (1L << 31);
        return (int) (seed / 65536 % n);
    }

    int drift(int n) {
        if (n < 1 || n > 60) return OUTSIDE;
        if (kinds.isEmpty()) return NOT;
        remember();
        for (int i = 0; i < n && !children.isEmpty() && !things.isEmpty(); i++) {
            int t = drawOf(things.size());
            holders[t] = drawOf(children.size());
        }
        return envyOfAll(holders);
    }

    int undo() {
        if (past.isEmpty()) return NOT;
        holders = past.removeLast();
        return past.size();
    }

    // ---- tried

    private List<Integer> swapsIn(int[] who) {
        List<Integer> list = new ArrayList<>();
        for (int code = 0; code < 100; code++) {
            int t = code / 10;
            int u = code % 10;
            if (t < u && u < who.length && who[t] != NONE && who[u] != NONE && who[t] != who[u] && areAgreed(who, t, u)) list.add(code);
        }
        return list;
    }

    int swaps(int i) {
        List<Integer> list = swapsIn(holders);
        if (i == NONE) return list.size();
        return i >= 0 && i < list.size() ? list.get(i) : NONE;
    }

    int settled(int what) {
        if (what != 0 && what != 1) return OUTSIDE;
        int[] who = holders.clone();
        int count = 0;
        List<Integer> list = swapsIn(who);
        while (!list.isEmpty() && count < 50) {
            who = swappedIn(who, list.get(0) / 10, list.get(0) % 10);
            count++;
            list = swapsIn(who);
        }
        return what == 0 ? count : tearsOf(who);
    }

    /** All ways to give all things, in the order of their holders. */
    private List<int[]> allWays() {
        List<int[]> list = new ArrayList<>();
        if (children.isEmpty()) return list;
        list.add(new int[0]);
        for (int t = 0; t < things.size(); t++) {
            List<int[]> longer = new ArrayList<>();
            for (int[] way : list) {
                for (int c = 0; c < children.size(); c++) {
                    int[] next = Arrays.copyOf(way, t + 1);
                    next[t] = c;
                    longer.add(next);
                }
            }
            list = longer;
        }
        return list;
    }

    int share(int t) {
        if (t != NONE && !isThing(t)) return UNKNOWN;
        if (children.isEmpty()) return NONE;
        int[] best = null;
        for (int[] way : allWays()) {
            int[] sizes = new int[children.size()];
            for (int c : way) sizes[c]++;
            Arrays.sort(sizes);
            if (sizes[sizes.length - 1] - sizes[0] > 1) continue;
            if (best == null || envyOfAll(way) < envyOfAll(best)) best = way;
        }
        return t == NONE ? envyOfAll(best) : best[t];
    }

    private void permute(String head, List<Integer> found) {
        if (head.length() == children.size()) {
            if (!head.isEmpty()) found.add(Integer.parseInt(head));
            return;
        }
        for (int c = 1; c <= children.size(); c++) {
            if (!head.contains("" + c)) permute(head + c, found);
        }
    }

    private List<Integer> orders() {
        List<Integer> found = new ArrayList<>();
        permute("", found);
        found.sort(null);
        return found;
    }

    private int[] chosen(int order) {
        String figures = "" + order;
        int[] who = holders.clone();
        for (int turn = 0;; turn++) {
            int c = figures.charAt(turn % figures.length()) - '1';
            int best = NONE;
            for (int t = who.length - 1; t >= 0; t--) {
                if (who[t] == NONE && (best == NONE || value(c, things.get(t)) >= value(c, things.get(best)))) best = t;
            }
            if (best == NONE) return who;
            who[best] = c;
        }
    }

    int choice(int order, int t) {
        if (!isThing(t)) return UNKNOWN;
        if (!orders().contains(order)) return OUTSIDE;
        return holders[t] == NONE ? chosen(order)[t] : NONE;
    }

    int bestOrder(int what) {
        if (what != 0 && what != 1) return OUTSIDE;
        if (children.isEmpty()) return NONE;
        int best = orders().get(0);
        for (int order : orders()) {
            if (envyOfAll(chosen(order)) < envyOfAll(chosen(best))) best = order;
        }
        return what == 0 ? best : envyOfAll(chosen(best));
    }

    int sweets(int n, int m) {
        if (n < 0 || n > 999 || m < 0 || m > n) return OUTSIDE;
        if (children.isEmpty()) return NONE;
        int count = children.size();
        int left = n + m;
        for (int each = 0; each * count <= n + m; each++) {
            for (int used = 0; used <= m; used++) {
                int shortOnes = each * count - 2 * used;
                boolean noneIsCut = used <= count * (each / 2);
                if (noneIsCut && shortOnes >= 0 && shortOnes <= n - m) left = n + m - each * count;
            }
        }
        return left;
    }

    int lasts(int d) {
        if (d < 0 || d > 99) return OUTSIDE;
        int set = 0;
        for (int t = 0; t < things.size(); t++) if (kinds.get(things.get(t)).days >= d) set += 1 << t;
        return set;
    }

    int rises(int n) {
        if (n < 0 || n > 30) return OUTSIDE;
        int pence = costs();
        for (int i = 0; i < n; i++) pence = Math.min(999999, pence * 11 / 10);
        return pence;
    }

    int spare(int c) {
        if (!isChild(c)) return UNKNOWN;
        int best = NONE;
        int least = Integer.MAX_VALUE;
        for (int k = 0; k < kinds.size(); k++) {
            if ((children.get(c).banned & 1 << k) != 0) continue;
            things.add(k);
            int[] who = Arrays.copyOf(holders, holders.length + 1);
            who[holders.length] = c;
            int sum = envyOfAll(who);
            things.remove(things.size() - 1);
            if (sum < least) {
                least = sum;
                best = k;
            }
        }
        return best;
    }

    int dry() {
        long odds = 1000000000;
        for (int c = 0; c < children.size(); c++) {
            for (int d = 0; d < children.size(); d++) {
                int e = envyIn(holders, c, d);
                if (e > 0) odds = odds * (100 - Math.min(100, e)) / 100;
            }
        }
        return (int) odds;
    }

    // ---- what is seen

    int see(int c, int d, boolean envied) {
        if (!isChild(c) || !isChild(d) || c == d) return UNKNOWN;
        if (!children.get(c).looks.contains(d)) return NOT;
        if (sights.size() == 6) return FULL;
        sights.add(new Sight(c, d, envied));
        return sights.size();
    }

    private List<int[]> fitting() {
        List<int[]> list = new ArrayList<>();
        for (int[] way : allWays()) {
            boolean fits = true;
            for (Sight s : sights) fits &= envyIn(way, s.c, s.d) > 0 == s.envied;
            if (fits) list.add(way);
        }
        return list;
    }

    int had(int t) {
        if (t != NONE && !isThing(t)) return UNKNOWN;
        List<int[]> list = fitting();
        if (t == NONE) return list.size();
        if (list.isEmpty()) return NONE;
        for (int[] way : list) if (way[t] != list.get(0)[t]) return NONE;
        return list.get(0)[t];
    }

    int watch() {
        List<int[]> list = fitting();
        int best = NONE;
        int least = list.size();
        for (int c = 0; c < children.size(); c++) {
            for (int d = 0; d < children.size(); d++) {
                if (!children.get(c).looks.contains(d)) continue;
                int envied = 0;
                for (int[] way : list) if (envyIn(way, c, d) > 0) envied++;
                int part = Math.max(envied, list.size() - envied);
                if (part < least) {
                    least = part;
                    best = 10 * c + d;
                }
            }
        }
        return best;
    }

    int write(int t, int c) {
        if (!isThing(t) || c != NONE && !isChild(c)) return UNKNOWN;
        if (book.size() == 15) return FULL;
        book.add(new Entry(t, c));
        return book.size();
    }

    int tear() {
        int both = sights.size() + book.size();
        sights.clear();
        book.clear();
        return both;
    }

    int judge() {
        for (int e = 0; e < book.size(); e++) if (holders[book.get(e).t] != book.get(e).c) return e;
        return NONE;
    }

    // ---- draws, images

    int seed(int v) {
        if (v < 0) return OUTSIDE;
        int old = (int) seed;
        seed = v;
        return old;
    }

    int keep(int i) {
        if (i != 0 && i != 1) return UNKNOWN;
        images.put(i, new Image(holders.clone(), seed));
        past.clear();
        return 1;
    }

    int goBack(int i) {
        if (i != 0 && i != 1) return UNKNOWN;
        if (!images.containsKey(i)) return NOT;
        holders = images.get(i).holders.clone();
        seed = images.get(i).seed;
        past.clear();
        return 1;
    }
}
