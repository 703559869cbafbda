import java.math.BigInteger;
import java.util.ArrayDeque;
import java.util.ArrayList;
import java.util.Arrays;
import java.util.Comparator;
import java.util.HashMap;
import java.util.HashSet;
import java.util.List;
import java.util.Map;
import java.util.PriorityQueue;
import java.util.Set;
import java.util.TreeSet;

/**
 * The document a second time, slowly and by other means than the class: FOLDS as sets of pairs, THREES looked for
 * among all threes, FOLDINGS found by changing FOLDS, ways held as texts. Answers are compared with those of the class.
 */
final class Model {
    static final int BAD = -1, NOT = -2, FULL = -3, NONE = -4, NULL = -11, CAST = -12, INDEX = -13, SIZE = -14;

    static final class State implements Cloneable {
        String letters = "";
        int[] worth = {}, bears = {}, wear = {}, shown = {};
        TreeSet<Integer> folds = new TreeSet<>();
        int front, back, effort;

        State twin() {
            State t = new State();
            t.letters = letters;
            t.worth = worth.clone();
            t.bears = bears.clone();
            t.wear = wear.clone();
            t.shown = shown.clone();
            t.folds = new TreeSet<>(folds);
            t.front = front;
            t.back = back;
            t.effort = effort;
            return t;
        }

        int size() {
            return letters.length();
        }

        boolean torn(int p) {
            return wear[p] >= bears[p];
        }

        boolean linked(int a, int b) {
            return areLinked(size(), folds, a, b);
        }

        int bringing(int side) {
            return bring(size(), folds, front, back, side);
        }

        boolean may(int move) {
            if (move == 2) return true;
            int c = bringing(move);
            return c >= 0 && !torn(c);
        }

        State behind(int move) {
            State t = twin();
            if (move == 2) {
                t.front = back;
                t.back = front;
                t.effort++;
                return t;
            }
            int c = bringing(move);
            t.effort += effortOf(letters.charAt(c), shown[c]);
            t.wear[c] += wearsBy(letters.charAt(c));
            if (t.shown[c] < 99) t.shown[c]++;
            t.front = c;
            t.back = front;
            return t;
        }

        /** Like behind, with WEAR and SHOWN as they were. */
        State behindUnworn(int move) {
            State t = behind(move);
            t.wear = wear.clone();
            t.shown = shown.clone();
            return t;
        }
    }

    static int pair(int a, int b) {
        return Math.min(a, b) * 10 + Math.max(a, b);
    }

    static boolean areLinked(int n, Set<Integer> folds, int a, int b) {
        if (a == b || a < 0 || b < 0 || a >= n || b >= n) return false;
        return (a + 1) % n == b || (b + 1) % n == a || folds.contains(pair(a, b));
    }

    static int bring(int n, Set<Integer> folds, int a, int b, int side) {
        Set<Integer> right = new HashSet<>();
        for (int p = (a + 1) % n; p != b; p = (p + 1) % n) right.add(p);
        for (int c = 0; c < n; c++) {
            if (c == a || c == b || right.contains(c) != (side == 0)) continue;
            if (areLinked(n, folds, a, c) && areLinked(n, folds, b, c)) return c;
        }
        return NONE;
    }

    static boolean cross(int p, int q) {
        int a = p / 10, b = p % 10, c = q / 10, d = q % 10;
        return a < c && c < b && b < d || c < a && a < d && d < b;
    }

    static int effortOf(char letter, int shown) {
        switch (letter) {
            case 'g': return effortOf('p', shown) - 1;
            case 't': return effortOf('p', shown);
            case 's': return 4;
            case 'b': return Math.max(1, effortOf('s', shown) - shown);
            default: return 2;
        }
    }

    static int wearsBy(char letter) {
        switch (letter) {
            case 't': return wearsBy('p') + 1;
            case 's': case 'b': return 0;
            default: return 1;
        }
    }

    StringBuilder tape = new StringBuilder();
    State now = null;
    ArrayDeque<State> acts = new ArrayDeque<>();
    State[] images = new State[2];
    Object[] sheets = new Object[4];

    int feed(int letter) {
        if (letter < 0 || letter > 255) return BAD;
        if (tape.length() == 80) return FULL;
        tape.append((char) letter);
        return tape.length();
    }

    int strip() {
        String text = tape.toString();
        tape = new StringBuilder();
        State made = new State();
        int fault = parse(text, made);
        if (fault >= 0) return -100 - fault;
        now = made;
        acts.clear();
        return now.size();
    }

    static boolean in(String text, int k, String of) {
        return k < text.length() && of.indexOf(text.charAt(k)) >= 0;
    }

    /** -1, or the place of a FAULT. */
    static int parse(String t, State s) {
        String figures = "0123456789";
        int k = 0;
        if (!in(t, k, "x")) return k;
        k++;
        List<int[]> numbers = new ArrayList<>();
        while (true) {
            if (!in(t, k, "pgtsb")) return k;
            if (!in(t, k + 1, figures)) return k + 1;
            if (!in(t, k + 2, "123456789")) return k + 2;
            s.letters += t.charAt(k);
            numbers.add(new int[] {t.charAt(k + 1) - '0', t.charAt(k + 2) - '0'});
            k += 3;
            int n = s.size();
            if (!in(t, k, n < 3 ? "," : n < 8 ? ",;" : ";")) return k;
            k++;
            if (t.charAt(k - 1) == ';') break;
        }
        int n = s.size();
        s.worth = numbers.stream().mapToInt(x -> x[0]).toArray();
        s.bears = numbers.stream().mapToInt(x -> x[1]).toArray();
        s.wear = new int[n];
        s.shown = new int[n];
        String those = figures.substring(0, n);
        if (n == 3) {
            if (!in(t, k, "-")) return k;
            k++;
        }
        for (int f = 3; f < n; f++) {
            if (!in(t, k, those)) return k;
            if (!in(t, k + 1, those)) return k + 1;
            int a = t.charAt(k) - '0', b = t.charAt(k + 1) - '0';
            if (a == b || s.linked(a, b)) return k + 1;
            for (int other : s.folds) if (cross(pair(a, b), other)) return k + 1;
            s.folds.add(pair(a, b));
            k += 2;
            if (f + 1 < n) {
                if (!in(t, k, ",")) return k;
                k++;
            }
        }
        if (!in(t, k, ";")) return k;
        k++;
        if (!in(t, k, those)) return k;
        if (!in(t, k + 1, those)) return k + 1;
        s.front = t.charAt(k) - '0';
        s.back = t.charAt(k + 1) - '0';
        if (!s.linked(s.front, s.back)) return k + 1;
        return t.length() > k + 2 ? k + 2 : -1;
    }

    boolean isPicture(long p) {
        return now != null && p >= 0 && p < now.size();
    }

    int picture(int p, int what) {
        if (!isPicture(p) || what < 0 || what > 7) return BAD;
        int links = 0;
        for (int q = 0; q < now.size(); q++) if (now.linked(p, q)) links |= 1 << q;
        int[] all = {" pgtsb".indexOf(now.letters.charAt(p)), now.worth[p], now.bears[p], now.wear[p], now.shown[p],
            effortOf(now.letters.charAt(p), now.shown[p]), links, now.torn(p) ? 1 : 0};
        return all[what];
    }

    int as(int p, int kind) {
        if (!isPicture(p) || kind < 0 || kind > 5) return BAD;
        String[] under = {"pgtsb", "pgt", "g", "t", "sb", "b"};
        return under[kind].indexOf(now.letters.charAt(p)) >= 0 ? p : CAST;
    }

    int brings(int side) {
        if (side != 0 && side != 1) return BAD;
        return now == null ? NOT : now.bringing(side);
    }

    private void act() {
        acts.addLast(now.twin());
        if (acts.size() > 24) acts.removeFirst();
    }

    int flex(int side) {
        if (side != 0 && side != 1) return BAD;
        if (now == null || !now.may(side)) return NOT;
        act();
        now = now.behind(side);
        return now.front;
    }

    int turn() {
        if (now == null) return NOT;
        act();
        now = now.behind(2);
        return now.front;
    }

    int refold(int a, int b) {
        if (!isPicture(a) || !isPicture(b) || a == b) return BAD;
        if (!now.folds.contains(pair(a, b)) || pair(a, b) == pair(now.front, now.back)) return NOT;
        act();
        int to = flipped(now.size(), now.folds, pair(a, b));
        now.folds.remove(pair(a, b));
        now.folds.add(to);
        return to;
    }

    /** The pair that a FOLD becomes OTHERWISE: of all PICTURES the two that are LINKED to both its own. */
    static int flipped(int n, Set<Integer> folds, int fold) {
        List<Integer> both = new ArrayList<>();
        for (int c = 0; c < n; c++) {
            if (areLinked(n, folds, c, fold / 10) && areLinked(n, folds, c, fold % 10)) both.add(c);
        }
        return pair(both.get(0), both.get(1));
    }

    int mend(int p) {
        if (!isPicture(p)) return BAD;
        if (now.wear[p] == 0) return NOT;
        act();
        now.wear[p] = now.wear[p] < 2 ? 0 : now.wear[p] - 2;
        return now.wear[p];
    }

    int undo() {
        if (acts.isEmpty()) return NONE;
        now = acts.removeLast();
        return acts.size();
    }

    int image(int k) {
        if (k < 0 || k > 1) return BAD;
        if (now == null) return NOT;
        images[k] = now.twin();
        return now.front;
    }

    int restore(int k) {
        if (k < 0 || k > 1) return BAD;
        if (images[k] == null) return NOT;
        now = images[k].twin();
        acts.clear();
        return now.front;
    }

    int reach() {
        if (now == null) return NOT;
        Set<Integer> seen = new HashSet<>();
        ArrayDeque<State> open = new ArrayDeque<>(List.of(now));
        int set = 0;
        while (!open.isEmpty()) {
            State s = open.removeLast();
            if (!seen.add(s.front * 8 + s.back)) continue;
            set |= 1 << s.front;
            for (int m = 0; m < 3; m++) if (s.may(m)) open.add(s.behindUnworn(m));
        }
        return set;
    }

    private record Trip(int effort, String moves, State at) { }

    int way(int p, int k) {
        if (!isPicture(p) || k < -2) return BAD;
        PriorityQueue<Trip> open = new PriorityQueue<>(Comparator.comparingInt(Trip::effort)
            .thenComparingInt(t -> t.moves.length()).thenComparing(Trip::moves));
        open.add(new Trip(0, "", now));
        Set<Integer> done = new HashSet<>();
        while (!open.isEmpty()) {
            Trip t = open.remove();
            if (t.at.front == p) {
                if (k == -2) return t.effort;
                if (k == -1) return t.moves.length();
                return k < t.moves.length() ? t.moves.charAt(k) - '0' : NONE;
            }
            if (!done.add(t.at.front * 8 + t.at.back)) continue;
            for (int m = 0; m < 3; m++) {
                if (!t.at.may(m)) continue;
                State on = t.at.behindUnworn(m);
                open.add(new Trip(on.effort - now.effort, t.moves + m, on));
            }
        }
        return NONE;
    }

    int tour() {
        if (now == null) return NOT;
        int all = reach();
        Map<Integer, Integer> moves = new HashMap<>();
        ArrayDeque<Integer> codes = new ArrayDeque<>();
        ArrayDeque<State> states = new ArrayDeque<>();
        int first = code(now, 1 << now.front);
        moves.put(first, 0);
        codes.add(first);
        states.add(now);
        while (!codes.isEmpty()) {
            int code = codes.remove();
            State s = states.remove();
            if ((code & 255) == all) return moves.get(code);
            for (int m = 0; m < 3; m++) {
                if (!s.may(m)) continue;
                State on = s.behindUnworn(m);
                int next = code(on, code & 255 | 1 << on.front);
                if (moves.putIfAbsent(next, moves.get(code) + 1) == null) {
                    codes.add(next);
                    states.add(on);
                }
            }
        }
        return NONE;
    }

    private static int code(State s, int set) {
        return (s.front * 8 + s.back) * 256 + set;
    }

    /** The STRIP behind 0, 1, .. MOVES as by ROUND. */
    private List<State> going(int n) {
        List<State> list = new ArrayList<>(List.of(now));
        for (int k = 0; k < n; k++) {
            State s = list.get(k);
            int side = k % 2;
            list.add(s.behindUnworn(s.may(side) ? side : s.may(1 - side) ? 1 - side : 2));
        }
        return list;
    }

    int round(int what) {
        if (what != 0 && what != 1) return BAD;
        if (now == null) return NOT;
        List<State> list = going(200);
        for (int first = 0; ; first++) {
            for (int later = first + 1; later <= 200; later++) {
                State a = list.get(first), b = list.get(later);
                if (a.front == b.front && a.back == b.back && (later - first) % 2 == 0) {
                    return what == 0 ? first : later - first;
                }
            }
        }
    }

    int hand(int p, int n, int q, int what) {
        if (!isPicture(p) || n < 0 || n > 6 || q < 0 || q > 10 || what < 0 || what > 1) return BAD;
        BigInteger above = BigInteger.ZERO;
        for (int throwing = 0; throwing < 1 << n; throwing++) {
            State s = now;
            BigInteger odds = BigInteger.ONE;
            for (int k = 0; k < n; k++) {
                int side = throwing >> k & 1;
                odds = odds.multiply(BigInteger.valueOf(side == 0 ? q : 10 - q));
                s = s.behind(s.may(side) ? side : 2);
            }
            if (s.front == p) above = above.add(odds);
        }
        BigInteger below = BigInteger.TEN.pow(n);
        BigInteger both = above.gcd(below);
        return (what == 0 ? above : below).divide(both).intValueExact();
    }

    int duel(int n) {
        if (n < 0 || n > 6) return BAD;
        return now == null ? NOT : 100 + margin(now, n, true);
    }

    /** What the first one gets more from here on; whose turn it is chooses. */
    private static int margin(State s, int n, boolean first) {
        if (n == 0) return 0;
        List<Integer> margins = new ArrayList<>();
        for (int m = 0; m < 3; m++) {
            if (!s.may(m)) continue;
            int gets = m == 2 ? 0 : s.worth[s.bringing(m)];
            margins.add((first ? gets : -gets) + margin(s.behind(m), n - 1, !first));
        }
        return margins.stream().reduce(first ? Math::max : Math::min).get();
    }

    int decades(int n, int seed, int what) {
        if (n < 0 || n > 60 || seed < 1 || seed > 999999 || what < 0 || what > 1) return BAD;
        if (now == null) return NOT;
        BigInteger x = BigInteger.valueOf(seed);
        State s = now;
        for (int k = 0; k < n; k++) {
            x = x.multiply(BigInteger.valueOf(16807)).mod(BigInteger.valueOf(2147483647));
            int move = x.shiftRight(3).mod(BigInteger.valueOf(3)).intValue();
            s = s.behind(s.may(move) ? move : 2);
        }
        return what == 0 ? s.effort : s.front;
    }

    private static boolean isSheet(int sheet) {
        return sheet >= 0 && sheet < 4;
    }

    private static boolean isLane(int lane) {
        return lane >= 0 && lane < 4;
    }

    private static int laneOf(Object row) {
        return row instanceof byte[] ? 0 : row instanceof short[] ? 1 : row instanceof int[] ? 2 : 3;
    }

    private static int lengthOf(Object row) {
        return java.lang.reflect.Array.getLength(row);
    }

    private static long at(Object row, int i) {
        return java.lang.reflect.Array.getLong(row, i);
    }

    private static void put(Object row, int i, long v) {
        if (row instanceof byte[] b) b[i] = (byte) v;
        else if (row instanceof short[] s) s[i] = (short) v;
        else if (row instanceof int[] k) k[i] = (int) v;
        else ((long[]) row)[i] = v;
    }

    int sheet(int sheet, int lane, int n) {
        if (!isSheet(sheet) || !isLane(lane) || n > 24) return BAD;
        if (n < 0) return SIZE;
        Object[] rows = {new byte[n], new short[n], new int[n], new long[n]};
        sheets[sheet] = rows[lane];
        return n;
    }

    int drop(int sheet) {
        if (!isSheet(sheet)) return BAD;
        if (sheets[sheet] == null) return NULL;
        int had = lengthOf(sheets[sheet]);
        sheets[sheet] = null;
        return had;
    }

    private int refused(int sheet, int lane, int i, int n) {
        if (sheets[sheet] == null) return NULL;
        if (laneOf(sheets[sheet]) != lane) return CAST;
        return i < 0 || (long) i + n > lengthOf(sheets[sheet]) ? INDEX : 0;
    }

    long item(int sheet, int lane, int i, long v) {
        if (!isSheet(sheet) || !isLane(lane)) return BAD;
        int refused = refused(sheet, lane, i, 1);
        if (refused < 0) return refused;
        put(sheets[sheet], i, v);
        return at(sheets[sheet], i);
    }

    int copy(int from, int i, int to, int j, int n) {
        if (!isSheet(from) || !isSheet(to)) return BAD;
        if (sheets[from] == null || sheets[to] == null) return NULL;
        if (laneOf(sheets[from]) != laneOf(sheets[to])) return CAST;
        if (n < 0 || i < 0 || j < 0) return INDEX;
        if ((long) i + n > lengthOf(sheets[from]) || (long) j + n > lengthOf(sheets[to])) return INDEX;
        long[] taken = new long[n];
        for (int k = 0; k < n; k++) taken[k] = at(sheets[from], i + k);
        for (int k = 0; k < n; k++) put(sheets[to], j + k, taken[k]);
        return n;
    }

    int log(int sheet, int lane, int i, int n) {
        if (!isSheet(sheet) || !isLane(lane) || n < 1 || n > 24) return BAD;
        int refused = refused(sheet, lane, i, n);
        if (refused < 0) return refused;
        if (now == null) return NOT;
        List<State> list = going(n);
        for (int k = 1; k <= n; k++) put(sheets[sheet], i + k - 1, list.get(k).front);
        return n;
    }

    private static final Map<Integer, List<Set<Integer>>> FOLDINGS = new HashMap<>();

    /** All FOLDINGS of a ring: from the fan on, each FOLD becoming OTHERWISE. */
    static List<Set<Integer>> allFoldings(int n) {
        return FOLDINGS.computeIfAbsent(n, size -> {
            Set<Integer> fan = new TreeSet<>();
            for (int p = 2; p < size - 1; p++) fan.add(p);
            List<Set<Integer>> list = new ArrayList<>(List.of(fan));
            Set<Set<Integer>> known = new HashSet<>(list);
            for (int k = 0; k < list.size(); k++) {
                for (int fold : list.get(k)) {
                    Set<Integer> other = new TreeSet<>(list.get(k));
                    other.remove(fold);
                    other.add(flipped(size, list.get(k), fold));
                    if (known.add(other)) list.add(other);
                }
            }
            return list;
        });
    }

    int foldings(int sheet, int lane, int i, int n, int what) {
        if (now == null || !isSheet(sheet) || !isLane(lane) || n < 0 || n > 8 || what < 0 || what > 2) return BAD;
        int refused = refused(sheet, lane, i, 2 + 2 * n);
        if (refused < 0) return refused;
        long[] told = new long[2 + 2 * n];
        for (int k = 0; k < told.length; k++) told[k] = at(sheets[sheet], i + k);
        for (int k = 0; k < told.length; k++) {
            boolean move = k >= 2 && k % 2 == 0;
            if (told[k] < 0 || told[k] >= (move ? 3 : now.size())) return NOT;
        }
        if (told[0] == told[1]) return NOT;
        if (what == 1) return spotBehind(now.folds, told) == null ? 0 : 1;
        int many = 0;
        int[][] brought = new int[2][9];
        for (Set<Integer> folds : allFoldings(now.size())) {
            int[] spot = spotBehind(folds, told);
            if (spot == null) continue;
            many++;
            for (int m = 0; m < 2; m++) {
                int c = bring(now.size(), folds, spot[0], spot[1], m);
                brought[m][c < 0 ? 8 : c]++;
            }
        }
        if (what == 0) return many;
        if (many == 0) return NONE;
        return Arrays.stream(brought[0]).max().getAsInt() <= Arrays.stream(brought[1]).max().getAsInt() ? 0 : 1;
    }

    private int[] spotBehind(Set<Integer> folds, long[] told) {
        int n = now.size();
        int a = (int) told[0], b = (int) told[1];
        if (!areLinked(n, folds, a, b)) return null;
        for (int k = 2; k < told.length; k += 2) {
            int c = told[k] == 2 ? b : bring(n, folds, a, b, (int) told[k]);
            if (c != told[k + 1]) return null;
            b = a;
            a = c;
        }
        return new int[] {a, b};
    }

    int kinds(int sheet, int lane, int i, int n, int what) {
        if (!isSheet(sheet) || !isLane(lane) || n < 1 || n > 10 || what < 0 || what > 1) return BAD;
        int refused = refused(sheet, lane, i, 2 * n);
        if (refused < 0) return refused;
        for (int k = 0; k < n; k++) {
            long shown = at(sheets[sheet], i + 2 * k);
            if (shown < 0 || shown > 99) return NOT;
        }
        String left = "";
        for (char letter : "pgtsb".toCharArray()) {
            boolean fits = true;
            for (int k = 0; k < n; k++) {
                int shown = (int) at(sheets[sheet], i + 2 * k);
                fits &= effortOf(letter, shown) == at(sheets[sheet], i + 2 * k + 1);
            }
            if (fits) left += letter;
        }
        int set = 0;
        for (char letter : left.toCharArray()) set |= 1 << " pgtsb".indexOf(letter);
        if (what == 0) return set;
        int best = NONE, least = 9;
        for (int shown = 0; shown < 10 && !left.isEmpty(); shown++) {
            int[] alike = new int[5];
            for (char letter : left.toCharArray()) alike[effortOf(letter, shown)]++;
            int greatest = Arrays.stream(alike).max().getAsInt();
            if (greatest < least) {
                least = greatest;
                best = shown;
            }
        }
        return best;
    }

    int count(int what) {
        if (what == 8) return tape.length();
        if (what < 0 || what > 8) return BAD;
        if (now == null) return what == 1 || what == 2 ? NONE : 0;
        int shown = 0, torn = 0;
        for (int p = 0; p < now.size(); p++) {
            if (now.shown[p] > 0) shown |= 1 << p;
            if (now.torn(p)) torn |= 1 << p;
        }
        int[] all = {now.size(), now.front, now.back, now.effort, shown, torn, Arrays.stream(now.wear).sum(), acts.size()};
        return all[what];
    }
}
