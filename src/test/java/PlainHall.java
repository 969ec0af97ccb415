import java.util.ArrayList;
import java.util.Collections;
import java.util.HashMap;
import java.util.List;
import java.util.Map;
import java.util.regex.Matcher;
import java.util.regex.Pattern;

/**
 * The document once more, by the plainest means and without regard to cost, to compare BargainHall with: WISHES are
 * texts that are read by a pattern, VALUES and SHARES go through all partings and orders, TERMS ask one another.
 */
final class PlainHall {
    private static final int BAD = -1, NOT = -2, FULL = -3, NONE = -4, NULL = -11, CAST = -12, INDEX = -13, SIZE = -14;
    private static final String LETTERS = "(?=[a-f])a?b?c?d?e?f?";
    private static final String CLAUSE = "(?:!" + LETTERS + "|" + LETTERS + "-?0*[0-9]{1,2})";
    private static final Pattern WISH = Pattern.compile(CLAUSE + "(?:;" + CLAUSE + "){0,11}");

    record Word(int kind, int house, int set, int price) { }

    record Sheet(int lane, int[] items) { }

    static final class Term {
        int kind, a, b, coins, about, n;
        Integer paid;
    }

    /** What a MACHINE knows of both sides. */
    record Side(int things, int coins, String wish) { }

    private final int[] owner = new int[6];
    private final int[] coins = {1000, 1000, 1000, 1000};
    private final int[][] ways = {{0, 100, 10}, {0, 100, 10}, {0, 100, 10}, {0, 100, 10}};
    private final String[] wishes = {"", "", "", ""};
    private String tape = "";
    private int standing, talkA, talkB, most;
    private final List<Word> words = new ArrayList<>();
    private int beganThingsA, beganThingsB, beganCoinsA, beganCoinsB;
    private final List<Term> terms = new ArrayList<>();
    private final Map<Integer, int[]> events = new HashMap<>();
    private final int[] row = new int[8];
    private final Sheet[] sheets = new Sheet[4];

    private static boolean out(int v, int least, int most) {
        return v < least || v > most;
    }

    private boolean open() {
        return standing == 1;
    }

    private int things(int house) {
        int bits = 0;
        for (int i = 0; i < 6; i++) {
            bits |= owner[i] == house ? 1 << i : 0;
        }
        return bits;
    }

    private static int bits(String letters) {
        int bits = 0;
        for (char c : letters.toCharArray()) {
            bits |= 1 << c - 'a';
        }
        return bits;
    }

    /** WORTHS and bars of WISHES that were asked for: kept, as reading texts takes its time. */
    private static final Map<String, Integer> KEPT = new HashMap<>();

    private static int worthOf(String wish, int set) {
        return KEPT.computeIfAbsent("worth " + set + ": " + wish, key -> readWorth(wish, set));
    }

    private static boolean barredBy(String wish, int set) {
        return KEPT.computeIfAbsent("bars " + set + ": " + wish, key -> readBarred(wish, set) ? 1 : 0) == 1;
    }

    static void forget() {
        KEPT.clear();
    }

    private static int readWorth(String wish, int set) {
        int sum = 0;
        for (String clause : wish.replace(" ", "").split(";")) {
            if (clause.isEmpty() || clause.charAt(0) == '!') {
                continue;
            }
            int letters = bits(clause.replaceAll("[^a-f]", ""));
            if ((letters & ~set) == 0) {
                sum += Integer.parseInt(clause.replaceAll("[a-f]", ""));
            }
        }
        return sum;
    }

    private static boolean readBarred(String wish, int set) {
        for (String clause : wish.replace(" ", "").split(";")) {
            if (clause.startsWith("!") && (bits(clause.substring(1)) & ~set) == 0) {
                return true;
            }
        }
        return false;
    }

    int own(int thing, int house) {
        if (out(thing, 0, 5) || out(house, 0, 3)) {
            return BAD;
        }
        if (open()) {
            return NOT;
        }
        int before = owner[thing];
        owner[thing] = house;
        return before;
    }

    int coins(int house, int v) {
        if (out(house, 0, 3) || out(v, 0, 9999)) {
            return BAD;
        }
        if (open()) {
            return NOT;
        }
        int before = coins[house];
        coins[house] = v;
        return before;
    }

    int type(long w, int n) {
        if (out(n, 1, 8)) {
            return BAD;
        }
        String more = "";
        for (int i = 0; i < n; i++) {
            int c = (int) (w >> 8 * i & 255);
            if (out(c, 32, 126)) {
                return BAD;
            }
            more = (char) c + more;
        }
        if (tape.length() + n > 90) {
            return FULL;
        }
        tape += more;
        return tape.length();
    }

    /** The text without blanks, but for those between digits; places tells where each sign stood. */
    private static String pressed(String text, List<Integer> places) {
        StringBuilder signs = new StringBuilder();
        for (int i = 0; i < text.length(); i++) {
            if (text.charAt(i) == ' ') {
                continue;
            }
            boolean apart = i > 0 && text.charAt(i - 1) == ' ' && Character.isDigit(text.charAt(i))
                    && signs.length() > 0 && Character.isDigit(signs.charAt(signs.length() - 1));
            if (apart) {
                signs.append(' ');
                places.add(i);
            }
            signs.append(text.charAt(i));
            places.add(i);
        }
        return signs.toString();
    }

    /** 0, or the FAULT: the first sign behind which no text could be a WISH. */
    private static int faultOf(String text) {
        List<Integer> places = new ArrayList<>();
        String signs = pressed(text, places);
        for (int n = 1; n <= signs.length(); n++) {
            Matcher m = WISH.matcher(signs.substring(0, n));
            if (!m.matches() && !m.hitEnd()) {
                int at = n - 1;
                if (Character.isDigit(signs.charAt(at))) {
                    while (at > 0 && Character.isDigit(signs.charAt(at - 1))) {
                        at--;
                    }
                }
                return -20 - places.get(at);
            }
        }
        return WISH.matcher(signs).matches() ? 0 : -20 - text.length();
    }

    int wish(int house) {
        if (out(house, 0, 3)) {
            return BAD;
        }
        if (open()) {
            return NOT;
        }
        String text = tape;
        tape = "";
        int fault = faultOf(text);
        if (fault != 0) {
            return fault;
        }
        wishes[house] = text;
        return clauses(text);
    }

    private static int clauses(String wish) {
        return wish.isEmpty() ? 0 : wish.split(";").length;
    }

    int worth(int house, int set) {
        return out(house, 0, 3) || out(set, 0, 63) ? -10001 : worthOf(wishes[house], set);
    }

    int barred(int house, int set) {
        return out(house, 0, 3) || out(set, 0, 63) ? BAD : barredBy(wishes[house], set) ? 1 : 0;
    }

    int told(int house, int what) {
        if (out(house, 0, 3) || out(what, 0, 5)) {
            return BAD;
        }
        int[] w = ways[house];
        return new int[] {things(house), coins[house], w[0], w[1], w[2], clauses(wishes[house])}[what];
    }

    int set(int house, int what, int v) {
        if (out(house, 0, 3) || out(what, 0, 2) || out(v, 0, what == 2 ? 99 : 999)) {
            return BAD;
        }
        if (open()) {
            return NOT;
        }
        int before = ways[house][what];
        ways[house][what] = v;
        return before;
    }

    private boolean noExchange(int a, int b, int set, int price) {
        return out(a, 0, 3) || out(b, 0, 3) || a == b || out(set, 0, 63) || out(price, -999, 999)
                || (set & ~(things(a) | things(b))) != 0;
    }

    private static int gainOf(Side s, int set, int paid) {
        return worthOf(s.wish, s.things ^ set) - worthOf(s.wish, s.things) - paid;
    }

    private static boolean goodFor(Side s, int set, int paid) {
        return !barredBy(s.wish, s.things ^ set) && !out(s.coins - paid, 0, 9999);
    }

    private Side side(int house) {
        return new Side(things(house), coins[house], wishes[house]);
    }

    int gain(int a, int b, int set, int price, int which) {
        if (noExchange(a, b, set, price) || out(which, 0, 1)) {
            return -10001;
        }
        return which == 0 ? gainOf(side(a), set, price) : gainOf(side(b), set, -price);
    }

    int good(int a, int b, int set, int price) {
        if (noExchange(a, b, set, price)) {
            return BAD;
        }
        return goodFor(side(a), set, price) && goodFor(side(b), set, -price) ? 1 : 0;
    }

    int best(int a, int b, int what) {
        if (out(a, 0, 3) || out(b, 0, 3) || a == b || out(what, 0, 3)) {
            return -10001;
        }
        int found = -1;
        for (int set = 63; set >= 0; set--) {
            if (noExchange(a, b, set, 0) || barredBy(wishes[a], things(a) ^ set) || barredBy(wishes[b], things(b) ^ set)) {
                continue;
            }
            if (found < 0 || gain(a, b, set, 0, 0) + gain(a, b, set, 0, 1) >= gain(a, b, found, 0, 0) + gain(a, b, found, 0, 1)) {
                found = set;
            }
        }
        if (found < 0) {
            return -10004;
        }
        int ga = gain(a, b, found, 0, 0);
        int gb = gain(a, b, found, 0, 1);
        int price = (ga - gb) / 2;
        if (ga + gb < ways[a][0] + ways[b][0] || out(price, -999, 999) || good(a, b, found, price) != 1) {
            return -10004;
        }
        return new int[] {found, price, ga - price, gb + price}[what];
    }

    int talk(int a, int b, int most) {
        if (out(a, 0, 3) || out(b, 0, 3) || a == b || out(most, 1, 20)) {
            return BAD;
        }
        if (open()) {
            return NOT;
        }
        standing = 1;
        talkA = a;
        talkB = b;
        this.most = most;
        words.clear();
        beganThingsA = things(a);
        beganThingsB = things(b);
        beganCoinsA = coins[a];
        beganCoinsB = coins[b];
        return 1;
    }

    private int turn() {
        return words.isEmpty() || words.get(words.size() - 1).house == talkB ? talkA : talkB;
    }

    private int other(int house) {
        return house == talkA ? talkB : talkA;
    }

    int talks(int what) {
        if (out(what, 0, 2)) {
            return BAD;
        }
        return what == 0 ? standing : what == 1 ? words.size() : open() ? turn() : NONE;
    }

    private int say(int kind, int set, int price) {
        words.add(new Word(kind, turn(), set, price));
        if (kind == 3) {
            standing = 2;
        } else if (kind == 4) {
            standing = 3;
        } else if (words.size() == most) {
            standing = 4;
        }
        return kind;
    }

    int ask(int thing) {
        if (out(thing, 0, 5)) {
            return BAD;
        }
        if (!open() || owner[thing] != other(turn())) {
            return NOT;
        }
        say(0, 0, 0);
        return 1;
    }

    private static boolean isOffer(Word w) {
        return w != null && (w.kind == 1 || w.kind == 2);
    }

    private Word ahead() {
        return words.isEmpty() ? null : words.get(words.size() - 1);
    }

    int offer(int set, int price) {
        if (!open()) {
            return NOT;
        }
        if (noExchange(talkA, talkB, set, price)) {
            return BAD;
        }
        return say(isOffer(ahead()) ? 2 : 1, set, price);
    }

    int yes() {
        if (!open() || !isOffer(ahead())) {
            return -10002;
        }
        Word w = ahead();
        int gained = gain(talkA, talkB, w.set, w.price, turn() == talkA ? 0 : 1);
        if (good(talkA, talkB, w.set, w.price) != 1 || gained < ways[turn()][0]) {
            return -10002;
        }
        say(3, 0, 0);
        for (int i = 0; i < 6; i++) {
            if ((w.set >> i & 1) == 1) {
                owner[i] = other(owner[i]);
            }
        }
        coins[talkA] -= w.price;
        coins[talkB] += w.price;
        return gained;
    }

    int walk() {
        if (!open()) {
            return NOT;
        }
        say(4, 0, 0);
        return words.size();
    }

    /** The WORD that a MACHINE would say as its k-th, behind a WORD of the other one (or none). */
    private Word machineWord(int house, int k, Word before, Side a, Side b) {
        boolean first = house == talkA;
        Side mine = first ? a : b;
        int[] way = ways[house];
        int level = Math.max(way[1] - k * way[2], way[0]);
        if (isOffer(before) && goodFor(a, before.set, before.price) && goodFor(b, before.set, -before.price)) {
            int gained = gainOf(mine, before.set, first ? before.price : -before.price);
            if (gained >= way[0] && gained >= level) {
                return new Word(3, house, 0, 0);
            }
        }
        List<Integer> sets = new ArrayList<>();
        for (int set = 0; set < 64; set++) {
            if ((set & ~(a.things | b.things)) == 0 && !barredBy(mine.wish, mine.things ^ set)) {
                sets.add(set);
            }
        }
        if (sets.isEmpty()) {
            return new Word(4, house, 0, 0);
        }
        Map<Integer, Integer> worths = new HashMap<>();
        for (int set : sets) {
            worths.put(set, worthOf(mine.wish, mine.things ^ set));
        }
        Collections.sort(sets, (p, q) -> worths.get(p).equals(worths.get(q)) ? p - q : worths.get(q) - worths.get(p));
        int set = sets.get(k % sets.size());
        int more = gainOf(mine, set, 0);
        for (int price = -999; price <= 999; price++) {
            if (more - (first ? price : -price) == level) {
                return new Word(isOffer(before) ? 2 : 1, house, set, price);
            }
        }
        return new Word(4, house, 0, 0);
    }

    int says() {
        if (!open()) {
            return NOT;
        }
        int house = turn();
        int k = 0;
        for (Word w : words) {
            k += w.house == house ? 1 : 0;
        }
        Word w = machineWord(house, k, ahead(), side(talkA), side(talkB));
        if (w.kind == 3) {
            yes();
        } else {
            say(w.kind, w.set, w.price);
        }
        return w.kind;
    }

    int runs() {
        if (!open()) {
            return NOT;
        }
        while (open()) {
            says();
        }
        return standing;
    }

    int word(int i, int what) {
        if (out(i, 0, words.size() - 1) || out(what, 0, 1)) {
            return BAD;
        }
        return what == 0 ? words.get(i).kind : words.get(i).house;
    }

    int offered(int i, int what) {
        if (out(i, 0, words.size() - 1) || out(what, 0, 1)) {
            return -10001;
        }
        Word w = words.get(i);
        return !isOffer(w) ? -10012 : what == 0 ? w.set : w.price;
    }

    int learnt(int house, int n) {
        if (out(house, 0, 3) || n < 0) {
            return BAD;
        }
        if (standing == 0) {
            return NOT;
        }
        int said = 0;
        for (Word w : words) {
            said += w.house == house ? 1 : 0;
        }
        if (house != talkA && house != talkB || n > said) {
            return BAD;
        }
        int pool = beganThingsA | beganThingsB;
        if (Integer.bitCount(pool) > 4) {
            return NOT;
        }
        List<String> guesses = new ArrayList<>(List.of(""));
        for (int i = 0; i < 6; i++) {
            if ((pool >> i & 1) == 1) {
                List<String> more = new ArrayList<>();
                for (String g : guesses) {
                    for (int v = 0; v <= 20; v += 10) {
                        more.add(g + (g.isEmpty() ? "" : ";") + (char) ('a' + i) + v);
                    }
                }
                guesses = more;
            }
        }
        int count = 0;
        for (String g : guesses) {
            count += wouldHaveSaid(house, g, n == 0 ? said : n) ? 1 : 0;
        }
        return count;
    }

    private boolean wouldHaveSaid(int house, String guess, int n) {
        Side a = new Side(beganThingsA, beganCoinsA, house == talkA ? guess : wishes[talkA]);
        Side b = new Side(beganThingsB, beganCoinsB, house == talkB ? guess : wishes[talkB]);
        int k = 0;
        for (int i = 0; i < words.size() && k < n; i++) {
            if (words.get(i).house == house) {
                if (!machineWord(house, k, i == 0 ? null : words.get(i - 1), a, b).equals(words.get(i))) {
                    return false;
                }
                k++;
            }
        }
        return true;
    }

    private Integer valueOf(int group) {
        List<Integer> members = new ArrayList<>();
        List<Integer> pool = new ArrayList<>();
        for (int h = 0; h < 4; h++) {
            if ((group >> h & 1) == 1) {
                members.add(h);
            }
        }
        for (int i = 0; i < 6; i++) {
            if (members.contains(owner[i])) {
                pool.add(i);
            }
        }
        int[][] worths = new int[4][64];
        boolean[][] bars = new boolean[4][64];
        for (int h : members) {
            for (int set = 0; set < 64; set++) {
                worths[h][set] = worthOf(wishes[h], set);
                bars[h][set] = barredBy(wishes[h], set);
            }
        }
        return most(members, pool, 0, new int[4], worths, bars);
    }

    private static Integer most(List<Integer> members, List<Integer> pool, int i, int[] has, int[][] worths, boolean[][] bars) {
        if (i == pool.size()) {
            int sum = 0;
            for (int h : members) {
                if (bars[h][has[h]]) {
                    return null;
                }
                sum += worths[h][has[h]];
            }
            return sum;
        }
        Integer best = null;
        for (int h : members) {
            has[h] |= 1 << pool.get(i);
            Integer v = most(members, pool, i + 1, has, worths, bars);
            has[h] &= ~(1 << pool.get(i));
            best = v == null || best != null && best >= v ? best : v;
        }
        return best;
    }

    int value(int group) {
        if (out(group, 1, 15)) {
            return -10001;
        }
        Integer v = valueOf(group);
        return v == null ? -10004 : v;
    }

    private int better(int group) {
        Integer v = valueOf(group);
        if (v == null) {
            return 0;
        }
        for (int h = 0; h < 4; h++) {
            v -= (group >> h & 1) == 1 ? worthOf(wishes[h], things(h)) : 0;
        }
        return v;
    }

    int unrest() {
        int most = 0;
        for (int group = 1; group < 16; group++) {
            most = Math.max(most, better(group));
        }
        return most;
    }

    int leaves() {
        for (int group = 1; group < 16; group++) {
            if (better(group) > 0) {
                return group;
            }
        }
        return NONE;
    }

    long share(int house) {
        if (out(house, 0, 3)) {
            return -2147483649L;
        }
        int[] values = new int[16];
        for (int group = 1; group < 16; group++) {
            Integer v = valueOf(group);
            values[group] = v == null ? 0 : v;
        }
        return overOrders(house, 0, values);
    }

    private static long overOrders(int house, int came, int[] values) {
        if (came == 15) {
            return 0;
        }
        long sum = 0;
        for (int h = 0; h < 4; h++) {
            if ((came >> h & 1) == 0) {
                int then = came | 1 << h;
                int left = 4 - Integer.bitCount(then);
                int orders = left <= 1 ? 1 : left == 2 ? 2 : 6;
                sum += h == house ? (long) orders * (values[then] - values[came]) : overOrders(house, then, values);
            }
        }
        return sum;
    }

    int envy() {
        for (int h = 0; h < 4; h++) {
            for (int o = 0; o < 4; o++) {
                if (h != o && worthOf(wishes[h], things(h)) < worthOf(wishes[h], things(o)) && !barredBy(wishes[h], things(o))) {
                    return 10 * h + o;
                }
            }
        }
        return NONE;
    }

    private int add(int kind, int a, int b, int coins, int about, int n) {
        if (terms.size() == 16) {
            return FULL;
        }
        Term t = new Term();
        t.kind = kind;
        t.a = a;
        t.b = b;
        t.coins = coins;
        t.about = about;
        t.n = n;
        terms.add(t);
        return terms.size() - 1;
    }

    private static boolean noDebt(int a, int b, int coins) {
        return out(a, 0, 3) || out(b, 0, 3) || a == b || out(coins, 1, 999);
    }

    int due(int a, int b, int coins, int by) {
        return noDebt(a, b, coins) || out(by, 0, 9999) ? BAD : add(0, a, b, coins, by, 0);
    }

    int when(int a, int b, int coins, int event, int n) {
        return noDebt(a, b, coins) || out(event, 0, 9) || out(n, 0, 999) ? BAD : add(1, a, b, coins, event, n);
    }

    int mend(int a, int b, int coins, int term, int n) {
        return noDebt(a, b, coins) || out(term, 0, terms.size() - 1) || out(n, 0, 999) ? BAD : add(2, a, b, coins, term, n);
    }

    int bar(int a, int event) {
        return out(a, 0, 3) || out(event, 0, 9) ? BAD : add(3, a, a, 0, event, 0);
    }

    int happen(int event, int hour, int known) {
        if (out(event, 0, 9) || out(hour, 0, 9999) || out(known, 0, 9999) || known < hour) {
            return BAD;
        }
        return events.putIfAbsent(event, new int[] {hour, known}) == null ? 1 : NOT;
    }

    int pay(int term, int hour) {
        if (out(term, 0, terms.size() - 1) || out(hour, 0, 9999)) {
            return BAD;
        }
        Term t = terms.get(term);
        if (t.kind == 3) {
            return CAST;
        }
        if (t.paid != null || coins[t.a] < t.coins || coins[t.b] + t.coins > 9999 || open()) {
            return NOT;
        }
        t.paid = hour;
        coins[t.a] -= t.coins;
        coins[t.b] += t.coins;
        return coins[t.b];
    }

    private boolean known(int event, int k) {
        return events.containsKey(event) && events.get(event)[1] <= k;
    }

    private Integer endOf(Term t, int k) {
        if (t.kind == 0) {
            return t.about;
        }
        if (t.kind == 1) {
            return known(t.about, k) ? events.get(t.about)[0] + t.n : null;
        }
        Integer broken = breakOf(terms.get(t.about), k);
        return broken == null ? null : broken + t.n;
    }

    private int stateOf(Term t, int k) {
        if (t.kind == 3) {
            return known(t.about, k) ? 4 : 1;
        }
        Integer end = endOf(t, k);
        Integer paid = t.paid == null || t.paid > k ? null : t.paid;
        if (end == null) {
            return 1;
        }
        if (paid != null && paid <= end) {
            return 3;
        }
        if (paid != null) {
            return 5;
        }
        return k > end ? 4 : 2;
    }

    private Integer breakOf(Term t, int k) {
        int state = stateOf(t, k);
        return state < 4 ? null : t.kind == 3 ? (Integer) events.get(t.about)[0] : (Integer) (endOf(t, k) + 1);
    }

    int state(int term, int hour) {
        return out(term, 0, terms.size() - 1) || out(hour, 0, 9999) ? BAD : stateOf(terms.get(term), hour);
    }

    int end(int term, int hour) {
        if (out(term, 0, terms.size() - 1) || out(hour, 0, 9999)) {
            return BAD;
        }
        Term t = terms.get(term);
        Integer end = t.kind == 3 ? (Integer) CAST : endOf(t, hour);
        return end == null ? NONE : end;
    }

    int owes(int house, int hour) {
        if (out(house, 0, 3) || out(hour, 0, 9999)) {
            return BAD;
        }
        int sum = 0;
        for (Term t : terms) {
            int state = stateOf(t, hour);
            sum += t.a == house && t.kind != 3 && (state == 2 || state == 4) ? t.coins : 0;
        }
        return sum;
    }

    private static int sum(int a, int b) {
        return (37 * a + 101 * b + 13) % 9973;
    }

    private static int[] up(int[] v) {
        int[] half = new int[v.length / 2];
        for (int i = 0; i < half.length; i++) {
            half[i] = sum(v[2 * i], v[2 * i + 1]);
        }
        return half;
    }

    int row(int i, int v) {
        if (out(i, 0, 7) || out(v, 0, 999)) {
            return BAD;
        }
        int before = row[i];
        row[i] = v;
        return before;
    }

    int root() {
        return up(up(up(row)))[0];
    }

    int proof(int i, int j) {
        if (out(i, 0, 7) || out(j, 0, 2)) {
            return BAD;
        }
        return j == 0 ? row[i ^ 1] : j == 1 ? up(row)[i / 2 ^ 1] : up(up(row))[i / 4 ^ 1];
    }

    int proves(int i, int v, int x, int y, int z) {
        if (out(i, 0, 7) || out(v, 0, 9972) || out(x, 0, 9972) || out(y, 0, 9972) || out(z, 0, 9972)) {
            return BAD;
        }
        int s = i % 2 == 0 ? sum(v, x) : sum(x, v);
        s = i / 2 % 2 == 0 ? sum(s, y) : sum(y, s);
        s = i / 4 == 0 ? sum(s, z) : sum(z, s);
        return s == root() ? 1 : 0;
    }

    int sheet(int sheet, int lane, int n) {
        if (out(sheet, 0, 3) || out(lane, 0, 2) || n > 12) {
            return BAD;
        }
        if (n < 0) {
            return SIZE;
        }
        sheets[sheet] = new Sheet(lane, new int[n]);
        return n;
    }

    int drop(int sheet) {
        if (out(sheet, 0, 3)) {
            return BAD;
        }
        if (sheets[sheet] == null) {
            return NULL;
        }
        int n = sheets[sheet].items.length;
        sheets[sheet] = null;
        return n;
    }

    int item(int sheet, int lane, int i, int v) {
        if (out(sheet, 0, 3) || out(lane, 0, 2)) {
            return BAD;
        }
        Sheet s = sheets[sheet];
        if (s == null) {
            return NULL;
        }
        if (s.lane != lane) {
            return CAST;
        }
        if (out(i, 0, s.items.length - 1)) {
            return INDEX;
        }
        int up = lane == 0 ? 24 : lane == 1 ? 16 : 0;
        s.items[i] = v << up >> up;
        return 1;
    }

    int wishes(int house, int sheet, int lane, int from) {
        if (out(house, 0, 3) || out(sheet, 0, 3) || out(lane, 0, 2)) {
            return BAD;
        }
        if (open()) {
            return NOT;
        }
        Sheet s = sheets[sheet];
        if (s == null) {
            return NULL;
        }
        if (s.lane != lane) {
            return CAST;
        }
        if (from < 0 || (long) from + 6 > s.items.length) {
            return INDEX;
        }
        String wish = "";
        for (int i = 0; i < 6; i++) {
            if (out(s.items[from + i], -99, 99)) {
                return NOT;
            }
            wish += (i == 0 ? "" : ";") + (char) ('a' + i) + s.items[from + i];
        }
        wishes[house] = wish;
        return 6;
    }
}
