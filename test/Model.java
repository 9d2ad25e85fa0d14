import java.math.BigInteger;
import java.nio.charset.StandardCharsets;
import java.util.ArrayList;
import java.util.Arrays;
import java.util.HashMap;
import java.util.HashSet;
import java.util.List;
import java.util.Map;
import java.util.Set;
import java.util.TreeMap;
import java.util.TreeSet;
import java.util.regex.Matcher;
import java.util.regex.Pattern;

/** The document once more, in the slowest and plainest way: what OracleTest holds the class against. */
final class Model {
    /** A BASE, with the list of its acts: what is LOCKED and DROPPED is played through anew each time. */
    static final class Told {
        int lines;
        int top;
        int law;
        int odds;
        List<Integer> kinds = new ArrayList<>();
        List<int[]> rules = new ArrayList<>();
        List<int[]> ops = new ArrayList<>();
        List<String> acts = new ArrayList<>();

        Told copy() {
            Told other = new Told();
            other.lines = lines;
            other.top = top;
            other.law = law;
            other.odds = odds;
            other.kinds.addAll(kinds);
            other.rules.addAll(rules);
            other.ops.addAll(ops);
            other.acts.addAll(acts);
            return other;
        }

        Set<Integer> after(char more, char less) {
            Set<Integer> set = new TreeSet<>();
            for (String act : acts) {
                int number = act.charAt(1) - '0';
                if (act.charAt(0) == more) {
                    set.add(number);
                }
                if (act.charAt(0) == less) {
                    set.remove(number);
                }
            }
            return set;
        }

        Set<Integer> dropped() {
            return after('D', '-');
        }

        Set<Integer> locked() {
            return after('L', 'F');
        }
    }

    record Break(int base, int first, int second, int merged, int ops) { }

    /** A question's suppositions: which rules and ops, which kinds, which law. */
    record Case(Set<Integer> dropped, Set<Integer> locked, List<Integer> kinds, int law) { }

    StringBuilder tape = new StringBuilder();
    Told told = new Told();
    int faultKind = 0;
    int faultPlace = -1;
    Told[] images = new Told[3];
    int[] widths = new int[4];
    long[][] slots = new long[4][];

    // ---- reading

    static final class Fault extends Exception {
        private static final long serialVersionUID = 1L;
        final int kind;
        final int place;

        Fault(int kind, int place) {
            this.kind = kind;
            this.place = place;
        }
    }

    static final class Words {
        final List<String> texts = new ArrayList<>();
        final List<Integer> places = new ArrayList<>();
        int at = 0;

        Words(String text) {
            Matcher matcher = Pattern.compile("[a-z]+|[0-9]+|;|[^ \\n]", Pattern.DOTALL).matcher(text);
            while (matcher.find()) {
                texts.add(matcher.group());
                places.add(matcher.start());
            }
            texts.add("");
            places.add(text.length());
        }

        Fault fault(int kind) {
            return new Fault(kind, places.get(at));
        }

        String peek() {
            return texts.get(at);
        }

        void need(String word) throws Fault {
            if (!peek().equals(word)) {
                throw fault(1);
            }
            at++;
        }

        int oneOf(String... words) throws Fault {
            int which = Arrays.asList(words).indexOf(peek());
            if (which < 0) {
                throw fault(1);
            }
            at++;
            return which;
        }

        int number(int low, int high, int not) throws Fault {
            if (!peek().matches("[0-9]+")) {
                throw fault(1);
            }
            BigInteger value = new BigInteger(peek());
            if (value.compareTo(BigInteger.valueOf(low)) < 0 || value.compareTo(BigInteger.valueOf(high)) > 0
                    || value.intValue() == not) {
                throw fault(2);
            }
            at++;
            return value.intValue();
        }
    }

    static Told read(String text) throws Fault {
        Words w = new Words(text);
        Told t = new Told();
        while (!w.peek().isEmpty()) {
            if (t.lines == 0) {
                w.need("base");
                w.need("top");
                t.top = w.number(1, 3, -1);
                w.need("law");
                t.law = w.number(0, 3, -1);
                w.need("odds");
                t.odds = w.number(0, 10, -1);
            } else {
                readLater(w, t);
            }
            w.need(";");
            t.lines++;
        }
        return t;
    }

    private static void readLater(Words w, Told t) throws Fault {
        int last = t.kinds.size() - 1;
        if (w.peek().equals("cell")) {
            if (t.kinds.size() == 3) {
                throw w.fault(3);
            }
            w.at++;
            t.kinds.add(w.oneOf("max", "min", "add", "late"));
            return;
        }
        if (w.peek().equals("rule")) {
            if (t.rules.size() == 5) {
                throw w.fault(3);
            }
            w.at++;
            int kind = w.oneOf("most", "least", "unlike", "sum", "order", "if");
            int a = w.number(0, last, -1);
            int[] row = {kind, a, -1, -1, -1};
            if (kind == 0 || kind == 1) {
                row[2] = w.number(0, t.top, -1);
            } else if (kind == 5) {
                row[2] = w.number(0, t.top, -1);
                row[3] = w.number(0, last, -1);
                row[4] = w.number(0, t.top, -1);
            } else {
                row[2] = w.number(0, last, a);
                if (kind == 3) {
                    row[3] = w.number(0, 6, -1);
                }
            }
            t.rules.add(row);
            return;
        }
        if (!w.peek().equals("op")) {
            throw w.fault(1);
        }
        if (t.ops.size() == 5) {
            throw w.fault(3);
        }
        w.at++;
        int kind = w.oneOf("more", "less", "set", "move");
        int a = w.number(0, last, -1);
        int[] row = {kind, a, -1, -1};
        if (kind == 3) {
            row[2] = w.number(0, last, a);
            row[3] = w.number(1, t.top, -1);
        } else {
            row[2] = w.number(kind == 2 ? 0 : 1, t.top, -1);
        }
        t.ops.add(row);
    }

    int feed(int... numbers) {
        if (tape.length() + 20 > 400) {
            return -1;
        }
        for (int number : numbers) {
            for (int shift = 24; shift >= 0; shift -= 8) {
                tape.append((char) (number >>> shift & 255));
            }
        }
        return tape.length();
    }

    int end(int n) {
        if (n < 0 || n > tape.length()) {
            return -1;
        }
        tape.setLength(n);
        return n;
    }

    int base() {
        String text = tape.toString();
        tape.setLength(0);
        try {
            told = read(text);
            faultKind = 0;
            faultPlace = -1;
            return told.lines;
        } catch (Fault fault) {
            faultKind = fault.kind;
            faultPlace = fault.place;
            return -4;
        }
    }

    int fault(int what) {
        return what == 0 ? faultKind : what == 1 ? faultPlace : -1;
    }

    // ---- is there such a thing

    boolean is() {
        return told.lines > 0;
    }

    boolean cellIs(int c) {
        return c >= 0 && c < told.kinds.size();
    }

    boolean ruleIs(int r) {
        return r >= 0 && r < told.rules.size();
    }

    boolean opIs(int o) {
        return o >= 0 && o < told.ops.size();
    }

    boolean stateIs(long s) {
        return is() && s >= 0 && s < size();
    }

    boolean depthIs(int d) {
        return is() && d >= 0 && d <= 3;
    }

    int size() {
        int size = 1;
        for (int i = 0; i < told.kinds.size(); i++) {
            size *= told.top + 1;
        }
        return size;
    }

    Case now() {
        return new Case(told.dropped(), told.locked(), told.kinds, told.law);
    }

    Case dropping(Set<Integer> dropped) {
        return new Case(dropped, told.locked(), told.kinds, told.law);
    }

    Case locking(Set<Integer> locked) {
        return new Case(told.dropped(), locked, told.kinds, told.law);
    }

    static int bits(Iterable<Integer> set) {
        int bits = 0;
        for (int i : set) {
            bits += 1 << i;
        }
        return bits;
    }

    static Set<Integer> set(int bits) {
        Set<Integer> set = new TreeSet<>();
        for (int i = 0; i < 31; i++) {
            if ((bits >> i) % 2 == 1) {
                set.add(i);
            }
        }
        return set;
    }

    static <T> Set<T> with(Set<T> set, Set<T> more) {
        Set<T> both = new TreeSet<>(set);
        both.addAll(more);
        return both;
    }

    // ---- states

    int[] values(int state) {
        int[] v = new int[told.kinds.size()];
        for (int c = 0; c < v.length; c++) {
            v[c] = state % (told.top + 1);
            state /= told.top + 1;
        }
        return v;
    }

    int number(int[] v) {
        int state = 0;
        for (int c = v.length - 1; c >= 0; c--) {
            state = state * (told.top + 1) + v[c];
        }
        return state;
    }

    boolean ruleHolds(int rule, int state) {
        int[] r = told.rules.get(rule);
        int[] v = values(state);
        return switch (r[0]) {
            case 0 -> v[r[1]] <= r[2];
            case 1 -> v[r[1]] >= r[2];
            case 2 -> v[r[1]] != v[r[2]];
            case 3 -> v[r[1]] + v[r[2]] <= r[3];
            case 4 -> v[r[1]] <= v[r[2]];
            default -> v[r[1]] < r[2] || v[r[3]] >= r[4];
        };
    }

    int firstBroken(int state, Set<Integer> dropped) {
        for (int r = 0; r < told.rules.size(); r++) {
            if (!dropped.contains(r) && !ruleHolds(r, state)) {
                return r;
            }
        }
        return -1;
    }

    boolean isValid(int state, Set<Integer> dropped) {
        return firstBroken(state, dropped) == -1;
    }

    List<Integer> validStates(Set<Integer> dropped) {
        List<Integer> all = new ArrayList<>();
        for (int s = 0; s < size(); s++) {
            if (isValid(s, dropped)) {
                all.add(s);
            }
        }
        return all;
    }

    int done(int op, int state, Set<Integer> dropped) {
        int[] o = told.ops.get(op);
        int[] v = values(state);
        switch (o[0]) {
            case 0 -> v[o[1]] += o[2];
            case 1 -> v[o[1]] -= o[2];
            case 2 -> v[o[1]] = o[2];
            default -> {
                v[o[1]] -= o[3];
                v[o[2]] += o[3];
            }
        }
        for (int value : v) {
            if (value < 0 || value > told.top) {
                return -1;
            }
        }
        return isValid(number(v), dropped) ? number(v) : -1;
    }

    int merged(Case c, int base, int first, int second) {
        int[] b = values(base);
        int[] f = values(first);
        int[] s = values(second);
        int[] m = new int[b.length];
        for (int i = 0; i < b.length; i++) {
            int kind = c.kinds.get(i);
            if (kind == 0) {
                m[i] = f[i] > s[i] ? f[i] : s[i];
            } else if (kind == 1) {
                m[i] = f[i] < s[i] ? f[i] : s[i];
            } else if (kind == 2) {
                int sum = b[i] + (f[i] - b[i]) + (s[i] - b[i]);
                m[i] = sum < 0 ? 0 : sum > told.top ? told.top : sum;
            } else if (f[i] != b[i] && s[i] != b[i]) {
                int greater = f[i] > s[i] ? f[i] : s[i];
                m[i] = new int[] {f[i], s[i], greater, b[i]}[c.law];
            } else {
                m[i] = f[i] != b[i] ? f[i] : s[i];
            }
        }
        return number(m);
    }

    // ---- what is reached: every row of ops, one by one

    Map<Integer, Integer> reached(int base, int d, Set<Integer> dropped, Set<Integer> without) {
        Map<Integer, Integer> found = new TreeMap<>();
        if (isValid(base, dropped)) {
            walk(base, 0, d, dropped, without, found);
        }
        return found;
    }

    private void walk(int state, int done, int d, Set<Integer> dropped, Set<Integer> without,
            Map<Integer, Integer> found) {
        found.merge(state, done, Math::min);
        for (int o = 0; done < d && o < told.ops.size(); o++) {
            int next = without.contains(o) ? -1 : done(o, state, dropped);
            if (next != -1) {
                walk(next, done + 1, d, dropped, without, found);
            }
        }
    }

    List<Break> breaksFrom(Case c, int base, int d) {
        List<Break> found = new ArrayList<>();
        Map<Integer, Integer> sides = reached(base, d, c.dropped, Set.of());
        Set<Integer> free = reached(base, d, c.dropped, c.locked).keySet();
        for (int first : sides.keySet()) {
            for (int second : sides.keySet()) {
                if (first <= second && (free.contains(first) || free.contains(second))) {
                    int m = merged(c, base, first, second);
                    if (!isValid(m, c.dropped)) {
                        found.add(new Break(base, first, second, m, sides.get(first) + sides.get(second)));
                    }
                }
            }
        }
        return found;
    }

    List<Break> breaks(Case c, int d) {
        List<Break> found = new ArrayList<>();
        for (int base = 0; base < size(); base++) {
            found.addAll(breaksFrom(c, base, d));
        }
        return found;
    }

    int total(Case c) {
        return breaks(c, 1).size();
    }

    Break smallest(int d) {
        Break best = null;
        for (int ops = 6; ops >= 0; ops--) {
            List<Break> all = breaks(now(), d);
            for (int i = all.size() - 1; i >= 0; i--) {
                if (all.get(i).ops == ops) {
                    best = all.get(i);
                }
            }
        }
        return best;
    }

    List<Integer> safeLocks(int d) {
        List<Integer> sets = new ArrayList<>();
        for (int set = 0; set < 1 << told.ops.size(); set++) {
            if (breaks(locking(set(set)), d).isEmpty()) {
                sets.add(set);
            }
        }
        return sets;
    }

    boolean commuting(int op, int other) {
        Set<Integer> dropped = told.dropped();
        for (int s : validStates(dropped)) {
            int x = done(op, s, dropped);
            int y = done(other, s, dropped);
            if (x >= 0 && y >= 0) {
                int xy = done(other, x, dropped);
                int yx = done(op, y, dropped);
                if (xy < 0 || yx < 0 || xy != yx) {
                    return false;
                }
            }
        }
        return true;
    }

    // ---- SEEN

    int refusal(int slot) {
        if (!is() || slot < 0 || slot > 3) {
            return -2;
        }
        if (slots[slot] == null) {
            return -6;
        }
        if (slots[slot].length % 3 != 0) {
            return -2;
        }
        for (long number : slots[slot]) {
            if (!stateIs(number)) {
                return -2;
            }
        }
        return 0;
    }

    List<Integer> fitting(int slot, int law) {
        Case c = new Case(told.dropped(), told.locked(), told.kinds, law);
        List<Integer> bases = new ArrayList<>();
        for (int base : validStates(c.dropped)) {
            boolean fit = true;
            for (int i = 0; i < slots[slot].length; i += 3) {
                fit &= merged(c, base, (int) slots[slot][i], (int) slots[slot][i + 1]) == slots[slot][i + 2];
            }
            if (fit) {
                bases.add(base);
            }
        }
        return bases;
    }

    // ---- SHARES, the GAME, CHANCE

    static long fraction(long above, long below, int what) {
        long g = BigInteger.valueOf(above).gcd(BigInteger.valueOf(below)).longValue();
        return what == 0 ? above / g : below / g;
    }

    int worth(int set) {
        Set<Integer> others = new TreeSet<>();
        for (int r = 0; r < told.rules.size(); r++) {
            if (!set(set).contains(r)) {
                others.add(r);
            }
        }
        return total(dropping(with(told.dropped(), others)));
    }

    long share(int rule, int what) {
        Map<Integer, Integer> worths = new HashMap<>();
        List<List<Integer>> orders = orders(told.rules.size());
        long sum = 0;
        for (List<Integer> order : orders) {
            int ahead = bits(order.subList(0, order.indexOf(rule)));
            sum += worths.computeIfAbsent(ahead + (1 << rule), this::worth);
            sum -= worths.computeIfAbsent(ahead, this::worth);
        }
        return fraction(sum, orders.size(), what);
    }

    private static List<List<Integer>> orders(int n) {
        List<List<Integer>> all = new ArrayList<>();
        if (n == 0) {
            all.add(new ArrayList<>());
            return all;
        }
        for (List<Integer> shorter : orders(n - 1)) {
            for (int at = 0; at < n; at++) {
                List<Integer> longer = new ArrayList<>(shorter);
                longer.add(at, n - 1);
                all.add(longer);
            }
        }
        return all;
    }

    int works(int op) {
        Set<Integer> dropped = told.dropped();
        int found = 0;
        for (int s : validStates(dropped)) {
            found += done(op, s, dropped) >= 0 ? 1 : 0;
        }
        return found;
    }

    int gets(int op, int other, int x, int y) {
        Set<Integer> chosen = new TreeSet<>();
        if (x == 1) {
            chosen.add(op);
        }
        if (y == 1) {
            chosen.add(other);
        }
        return works(op) - total(locking(with(told.locked(), chosen))) - (x == 1 ? 2 : 0);
    }

    int rests(int op, int other) {
        int found = 0;
        for (int x = 0; x < 2; x++) {
            for (int y = 0; y < 2; y++) {
                if (gets(op, other, 1 - x, y) <= gets(op, other, x, y)
                        && gets(other, op, 1 - y, x) <= gets(other, op, y, x)) {
                    found += x == 0 ? (y == 0 ? 1 : 4) : (y == 0 ? 2 : 8);
                }
            }
        }
        return found;
    }

    /** Each of ten times ten times .. equally likely rows of numbers 0 .. 9, a number a RULE. */
    long chance(int what, boolean ofValids) {
        int n = told.rules.size();
        int cases = (int) Math.pow(10, n);
        int[] times = new int[1 << n];
        for (int i = 0; i < cases; i++) {
            int set = 0;
            int rest = i;
            for (int r = 0; r < n; r++) {
                set += rest % 10 < told.odds ? 1 << r : 0;
                rest /= 10;
            }
            times[set]++;
        }
        long sum = 0;
        for (int set = 0; set < times.length; set++) {
            Set<Integer> gone = with(told.dropped(), set(set));
            if (times[set] > 0 && ofValids) {
                sum += (long) times[set] * validStates(gone).size();
            } else if (times[set] > 0) {
                sum += breaks(dropping(gone), 1).isEmpty() ? times[set] : 0;
            }
        }
        return fraction(sum, cases, what);
    }

    Set<Integer> audit(long seed) {
        BigInteger x = BigInteger.valueOf(seed);
        Set<Integer> gone = new TreeSet<>();
        for (int r = 0; r < told.rules.size(); r++) {
            x = x.multiply(BigInteger.valueOf(1103515245)).add(BigInteger.valueOf(12345))
                    .mod(BigInteger.valueOf(2147483648L));
            if (x.divide(BigInteger.valueOf(65536)).mod(BigInteger.TEN).intValue() < told.odds) {
                gone.add(r);
            }
        }
        return gone;
    }

    int act(String act) {
        if (told.acts.size() == 20) {
            return -5;
        }
        told.acts.add(act);
        return total(now());
    }

    // ---- the calls by their names

    long call(String name, long... n) {
        int a = n.length > 0 ? (int) n[0] : 0;
        int b = n.length > 1 ? (int) n[1] : 0;
        int c = n.length > 2 ? (int) n[2] : 0;
        int d = n.length > 3 ? (int) n[3] : 0;
        int e = n.length > 4 ? (int) n[4] : 0;
        switch (name) {
            case "feed":
                return feed(a, b, c, d, e);
            case "end":
                return end(a);
            case "base":
                return base();
            case "fault":
                return fault(a);
            case "cell":
                return cellIs(a) ? told.kinds.get(a) : -2;
            case "rule":
                return ruleIs(a) && b >= 0 && b <= 4 ? told.rules.get(a)[b] : -2;
            case "op":
                return opIs(a) && b >= 0 && b <= 3 ? told.ops.get(a)[b] : -2;
            case "states":
                return is() ? size() : -2;
            case "value":
                return stateIs(a) && cellIs(b) ? values(a)[b] : -2;
            case "holds":
                return ruleIs(a) && stateIs(b) ? ruleHolds(a, b) ? 1 : 0 : -2;
            case "dropped":
                return is() ? bits(told.dropped()) : -2;
            case "locked":
                return is() ? bits(told.locked()) : -2;
            default:
                return name.matches("feed|lock|frees|drops|undo|anew|rate|count|image|back|row|write|paste")
                        ? acting(name, n, a, b, c, d, e) : asking(name, a, b, c, d);
        }
    }

    private long asking(String name, int a, int b, int c, int d) {
        switch (name) {
            case "valid", "breaks", "weight", "nearest", "opens", "calm":
                return stateIs(a) ? ofState(name, a) : -2;
            case "works", "commute", "clashes", "rests", "gets":
                boolean game = name.equals("rests") || name.equals("gets");
                boolean one = name.equals("works");
                boolean fine = opIs(a) && (one || opIs(b)) && (!game || a != b)
                        && (!name.equals("gets") || c >= 0 && c <= 1 && d >= 0 && d <= 1);
                return fine ? ofOps(name, a, b, c, d) : name.equals("gets") ? -1000000 : -2;
            case "does":
                return opIs(a) && stateIs(b) ? done(a, b, told.dropped()) : -2;
            case "merge":
                return stateIs(a) && stateIs(b) && stateIs(c) ? merged(now(), a, b, c) : -2;
            case "even":
                return !stateIs(a) || !stateIs(b) || !stateIs(c) ? -2
                        : merged(now(), a, b, c) == merged(now(), a, c, b) ? 1 : 0;
            case "far", "step":
                return stateIs(a) && stateIs(b) ? ofWay(name, a, b) : -2;
            case "reach", "freely", "bad", "asked":
                return stateIs(a) && depthIs(b) ? ofSides(name, a, b) : -2;
            case "all", "pairs", "safe", "culprit", "worst", "fine", "fewest", "locks", "needed", "bare", "hot":
                return depthIs(a) ? ofDepth(name, a) : -2;
            case "least":
                return depthIs(a) && b >= 0 && b <= 4 ? ofLeast(a, b) : -2;
            case "hits", "alone":
                return ruleIs(a) && depthIs(b) ? ofRule(name, a, b) : -2;
            case "known", "spare":
                return ruleIs(a) ? ofRule(name, a, 0) : -2;
            case "share":
                return ruleIs(a) && b >= 0 && b <= 1 ? share(a, b) : -1000000;
            case "fits", "which", "laws":
                return refusal(a) != 0 ? refusal(a) : ofRow(name, a);
            case "room":
                return cellIs(a) ? room(a) : -2;
            case "by":
                return is() && a >= 0 && a <= 3 ? by(a) : -2;
            case "worth":
                return is() && a >= 0 && a < 1 << told.rules.size() ? worth(a) : -2;
            case "chance", "mean":
                return is() && a >= 0 && a <= 1 ? chance(a, name.equals("mean")) : -2;
            case "drawn":
                return !is() || a < 0 || a > 2000000000 || b < 0 || b > 1 ? -2 : b == 0 ? bits(audit(a))
                        : total(dropping(with(told.dropped(), audit(a))));
            case "luck":
                return is() && a >= 0 && a <= 2000000000 && b >= 1 && b <= 20 ? luck(a, b) : -2;
            default:
                return is() ? ofAll(name) : -2;
        }
    }

    private int luck(long seed, int n) {
        int found = 0;
        for (long s = seed; s < seed + n; s++) {
            found += breaks(dropping(with(told.dropped(), audit(s))), 1).isEmpty() ? 1 : 0;
        }
        return found;
    }

    private int by(int law) {
        return total(new Case(told.dropped(), told.locked(), told.kinds, law));
    }

    private int room(int cell) {
        Set<Integer> found = new TreeSet<>();
        for (int s : validStates(told.dropped())) {
            found.add(values(s)[cell]);
        }
        return bits(found);
    }

    private List<Integer> open(int state) {
        List<Integer> open = new ArrayList<>();
        for (int o = 0; o < told.ops.size(); o++) {
            if (done(o, state, told.dropped()) >= 0) {
                open.add(o);
            }
        }
        return open;
    }

    private long ofState(String name, int state) {
        Set<Integer> dropped = told.dropped();
        switch (name) {
            case "valid":
                return isValid(state, dropped) ? 1 : 0;
            case "breaks":
                return firstBroken(state, dropped);
            case "weight":
                return Arrays.stream(values(state)).sum();
            case "opens":
                return bits(open(state));
            case "calm":
                int calm = -1;
                for (int d = 0; d <= 3 && isValid(state, dropped); d++) {
                    calm = breaksFrom(now(), state, d).isEmpty() ? d : calm;
                }
                return calm;
            default:
                for (int apart = 0; apart <= 3; apart++) {
                    for (int s : validStates(dropped)) {
                        int unlike = 0;
                        for (int c = 0; c < told.kinds.size(); c++) {
                            unlike += values(s)[c] != values(state)[c] ? 1 : 0;
                        }
                        if (unlike == apart) {
                            return s;
                        }
                    }
                }
                return -1;
        }
    }

    private long ofOps(String name, int op, int other, int x, int y) {
        Set<Integer> dropped = told.dropped();
        switch (name) {
            case "works":
                return works(op);
            case "commute":
                return commuting(op, other) ? 1 : 0;
            case "rests":
                return rests(op, other);
            case "gets":
                return gets(op, other, x, y);
            default:
                int clashes = 0;
                for (int s : validStates(dropped)) {
                    int first = done(op, s, dropped);
                    int second = done(other, s, dropped);
                    if (first >= 0 && second >= 0 && !isValid(merged(now(), s, first, second), dropped)) {
                        clashes++;
                    }
                }
                return clashes;
        }
    }

    private long ofWay(String name, int base, int state) {
        Set<Integer> dropped = told.dropped();
        Integer far = reached(base, 3, dropped, Set.of()).get(state);
        if (far == null || name.equals("far")) {
            return far == null ? -1 : far;
        }
        for (int o = 0; o < told.ops.size() && far > 0; o++) {
            int next = done(o, base, dropped);
            Integer left = next < 0 ? null : reached(next, 3, dropped, Set.of()).get(state);
            if (left != null && left == far - 1) {
                return o;
            }
        }
        return -1;
    }

    private long ofSides(String name, int base, int d) {
        Set<Integer> sides = reached(base, d, told.dropped(), Set.of()).keySet();
        Set<Integer> free = reached(base, d, told.dropped(), told.locked()).keySet();
        switch (name) {
            case "reach":
                return sides.isEmpty() ? -1 : sides.size();
            case "freely":
                return sides.isEmpty() ? -1 : free.size();
            case "bad":
                return breaksFrom(now(), base, d).size();
            default:
                int asked = 0;
                for (int f : sides) {
                    for (int s : sides) {
                        asked += f <= s && !free.contains(f) && !free.contains(s) ? 1 : 0;
                    }
                }
                return asked;
        }
    }

    private long ofDepth(String name, int d) {
        List<Break> all = breaks(now(), d);
        switch (name) {
            case "all":
                return all.size();
            case "pairs":
                Set<List<Integer>> pairs = new HashSet<>();
                all.forEach(x -> pairs.add(List.of(x.first, x.second)));
                return pairs.size();
            case "safe":
                return all.isEmpty() ? 1 : 0;
            case "culprit":
                return all.isEmpty() ? -1 : firstBroken(smallest(d).merged, told.dropped());
            case "worst":
                int worst = -1;
                for (int r = told.rules.size() - 1; r >= 0 && !all.isEmpty(); r--) {
                    if (worst == -1 || ofRule("hits", r, d) >= ofRule("hits", worst, d)) {
                        worst = r;
                    }
                }
                return worst;
            case "fine":
                int fine = 0;
                for (int r = 0; r < told.rules.size(); r++) {
                    fine += ofRule("alone", r, d) << r;
                }
                return fine;
            case "bare":
                return all.stream().map(Break::base).distinct().count();
            case "hot":
                Map<Integer, Integer> found = new TreeMap<>();
                all.forEach(x -> found.merge(x.base, 1, Integer::sum));
                return found.isEmpty() ? -1 : found.entrySet().stream()
                        .max((x, y) -> x.getValue() != y.getValue().intValue() ? x.getValue() - y.getValue()
                                : y.getKey() - x.getKey()).get().getKey();
            default:
                return ofLocks(name, safeLocks(d));
        }
    }

    private long ofLocks(String name, List<Integer> sets) {
        if (name.equals("needed")) {
            int common = (1 << told.ops.size()) - 1;
            for (int set : sets) {
                common &= set;
            }
            return common;
        }
        for (int ops = 0; ops <= 5; ops++) {
            for (int set : sets) {
                if (set(set).size() == ops) {
                    return name.equals("fewest") ? ops : set;
                }
            }
        }
        return -1;
    }

    private long ofLeast(int d, int what) {
        Break least = smallest(d);
        return least == null ? -1
                : new int[] {least.base, least.first, least.second, least.merged, least.ops}[what];
    }

    private long ofRule(String name, int rule, int d) {
        Set<Integer> dropped = told.dropped();
        switch (name) {
            case "hits":
                return dropped.contains(rule) ? 0
                        : breaks(now(), d).stream().filter(x -> !ruleHolds(rule, x.merged)).count();
            case "alone":
                Set<Integer> others = new TreeSet<>();
                for (int r = 0; r < told.rules.size(); r++) {
                    others.add(r);
                }
                others.remove(rule);
                return breaks(dropping(others), d).isEmpty() ? 1 : 0;
            case "known":
                int[] row = told.rules.get(rule);
                return row[0] <= 1 && told.kinds.get(row[1]) != 2 ? 1 : 0;
            default:
                return validStates(dropped).equals(validStates(with(dropped, Set.of(rule)))) ? 1 : 0;
        }
    }

    private long ofRow(String name, int slot) {
        if (name.equals("laws")) {
            int laws = 0;
            for (int law = 0; law <= 3; law++) {
                laws += fitting(slot, law).isEmpty() ? 0 : 1 << law;
            }
            return laws;
        }
        List<Integer> bases = fitting(slot, told.law);
        return name.equals("fits") ? bases.size() : bases.isEmpty() ? -1 : bases.get(0);
    }

    private long ofAll(String name) {
        switch (name) {
            case "valids":
                return validStates(told.dropped()).size();
            case "table":
                int table = 0;
                for (int o = 0; o < told.ops.size(); o++) {
                    for (int p = 0; p < o; p++) {
                        table += commuting(o, p) ? 1 : 0;
                    }
                }
                return table;
            case "bound":
                int bound = -1;
                for (int d = 0; d <= 3; d++) {
                    bound = breaks(now(), d).isEmpty() ? d : bound;
                }
                return bound;
            case "dead":
                return validStates(told.dropped()).stream().filter(s -> open(s).isEmpty()).count();
            case "hard":
                int hard = -1;
                for (int r = told.rules.size() - 1; r >= 0; r--) {
                    hard = hard == -1 || broken(r) >= broken(hard) ? r : hard;
                }
                return hard;
            case "law":
                int law = 3;
                for (int l = 2; l >= 0; l--) {
                    law = by(l) <= by(law) ? l : law;
                }
                return law;
            case "blame":
                return blame();
            case "cure":
                return cure();
            default:
                throw new IllegalArgumentException(name);
        }
    }

    private int broken(int rule) {
        int broken = 0;
        for (int s = 0; s < size(); s++) {
            broken += ruleHolds(rule, s) ? 0 : 1;
        }
        return broken;
    }

    private int blame() {
        TreeMap<Integer, Integer> firstBy = new TreeMap<>();
        for (int r = 0; r < told.rules.size(); r++) {
            firstBy.putIfAbsent(total(dropping(with(told.dropped(), Set.of(r)))), r);
        }
        return !firstBy.isEmpty() && firstBy.firstKey() < total(now()) ? firstBy.firstEntry().getValue() : -1;
    }

    private int cure() {
        TreeMap<Integer, Integer> firstBy = new TreeMap<>();
        for (int c = 0; c < told.kinds.size(); c++) {
            for (int kind = 0; kind < 4; kind++) {
                List<Integer> kinds = new ArrayList<>(told.kinds);
                kinds.set(c, kind);
                firstBy.putIfAbsent(total(new Case(told.dropped(), told.locked(), kinds, told.law)), 10 * c + kind);
            }
        }
        return !firstBy.isEmpty() && firstBy.firstKey() < total(now()) ? firstBy.firstEntry().getValue() : -1;
    }

    private long acting(String name, long[] n, int a, int b, int c, int d, int e) {
        switch (name) {
            case "lock":
                return opIs(a) ? act("L" + a) : -2;
            case "frees":
                if (!opIs(a)) {
                    return -2;
                }
                return told.acts.size() < 20 && !told.locked().contains(a) ? total(now()) : act("F" + a);
            case "drops":
                return ruleIs(a) ? act("D" + a) : -2;
            case "undo":
                if (!is() || told.acts.isEmpty()) {
                    return is() ? -5 : -2;
                }
                told.acts.remove(told.acts.size() - 1);
                return told.acts.size();
            case "anew":
                int acts = told.acts.size();
                told.acts.clear();
                return is() ? acts : -2;
            case "rate":
                if (!cellIs(a) || b < 0 || b > 3) {
                    return -2;
                }
                return told.acts.isEmpty() ? told.kinds.set(a, b) : -5;
            case "count":
                int there = (int) Arrays.stream(slots).filter(x -> x != null).count();
                int[] counts = {told.top, told.law, told.odds, told.kinds.size(), told.rules.size(),
                    told.ops.size(), told.acts.size(), told.lines, tape.length(), there};
                return a >= 0 && a <= 9 ? counts[a] : -1;
            case "image", "back":
                return imaging(name, a);
            default:
                return slotting(name, n, a, b, c, d, e);
        }
    }

    private int imaging(String name, int k) {
        if (k < 0 || k > 2) {
            return -2;
        }
        if (name.equals("image")) {
            images[k] = told.copy();
            return 0;
        }
        if (images[k] == null) {
            return -6;
        }
        told = images[k].copy();
        return 0;
    }

    private int slotting(String name, long[] n, int a, int b, int c, int d, int e) {
        if (a < 0 || a > 3) {
            return -2;
        }
        switch (name) {
            case "row":
                if (b < 0 || b > 3 || c > 60) {
                    return -2;
                }
                if (c < 0) {
                    return -3;
                }
                widths[a] = b;
                slots[a] = new long[c];
                return 0;
            case "write":
                if (slots[a] == null) {
                    return -6;
                }
                if (b < 0 || b >= slots[a].length) {
                    return -7;
                }
                int bits = 64 - (8 << widths[a]);
                slots[a][b] = n[2] << bits >> bits;
                return 0;
            default:
                if (c < 0 || c > 3) {
                    return -2;
                }
                if (slots[a] == null || slots[c] == null) {
                    return -6;
                }
                if (widths[a] != widths[c]) {
                    return -8;
                }
                if (b < 0 || d < 0 || e < 0 || (long) b + e > slots[a].length || (long) d + e > slots[c].length) {
                    return -7;
                }
                long[] numbers = Arrays.copyOfRange(slots[a], b, b + e);
                System.arraycopy(numbers, 0, slots[c], d, e);
                return 0;
        }
    }

    /** A text's bytes as a tape holds them, each a sign. */
    static byte[] bytes(String text) {
        return text.getBytes(StandardCharsets.ISO_8859_1);
    }
}
