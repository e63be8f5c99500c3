import java.math.BigInteger;
import java.util.ArrayList;
import java.util.Arrays;
import java.util.HashMap;
import java.util.List;
import java.util.Map;
import java.util.TreeMap;
import java.util.regex.Matcher;
import java.util.regex.Pattern;

/**
 * The document told a second time, for ModelTest: slow, by copies and by trying all, and with the
 * kinds as classes over one another, so that a slip in NetLaw is not made here in the same way.
 */
final class Model {
    private static class Reef {
        int holds(int s, boolean rain, int right) {
            return rain ? s - 1 : s;
        }

        int rots(int n) {
            return 1;
        }
    }

    private static class Tarred extends Reef {
        @Override
        int holds(int s, boolean rain, int right) {
            return super.holds(s, false, right);
        }

        @Override
        int rots(int n) {
            return n % 2 == 1 ? super.rots(n) : 0;
        }
    }

    private static class Sheet extends Reef {
        @Override
        int holds(int s, boolean rain, int right) {
            return 2 * super.holds(s, rain, right);
        }

        @Override
        int rots(int n) {
            return 1 + super.rots(n);
        }
    }

    private static final class Cork extends Tarred {
        @Override
        int holds(int s, boolean rain, int right) {
            int tarred = super.holds(s, rain, right);
            return tarred / 2 + tarred % 2;
        }
    }

    private static final class Lead extends Sheet {
        @Override
        int holds(int s, boolean rain, int right) {
            int sheet = super.holds(s, rain, right);
            return rain ? sheet : sheet + 3;
        }

        @Override
        int rots(int n) {
            int sheet = super.rots(n);
            return n % 3 == 0 ? sheet : sheet - 1;
        }
    }

    private static final class Splice extends Reef {
        @Override
        int holds(int s, boolean rain, int right) {
            return super.holds(s, rain, right) + right / 2;
        }
    }

    private static final Reef[] KINDS = {
        new Reef(), new Tarred(), new Sheet(), new Cork(), new Lead(), new Splice()};

    private static final class Knot {
        final int kind;
        final int strength;
        final int village;

        Knot(int kind, int strength, int village) {
            this.kind = kind;
            this.strength = strength;
            this.village = village;
        }

        Knot with(int s) {
            return new Knot(kind, Math.max(0, s), village);
        }
    }

    private static final class State {
        boolean rain;
        int twine;
        int hands;
        int night;
        List<Knot> knots = new ArrayList<>();
        int[] wide = new int[9];
        List<int[]> readings = new ArrayList<>();
        List<State> past = new ArrayList<>();

        State() {
            for (int i = 0; i < 16; i++) {
                knots.add(new Knot(0, 0, 0));
            }
            Arrays.fill(wide, 9);
        }

        State copy() {
            State s = new State();
            s.rain = rain;
            s.twine = twine;
            s.hands = hands;
            s.night = night;
            s.knots = new ArrayList<>(knots);
            s.wide = wide.clone();
            s.readings = new ArrayList<>(readings);
            s.past = new ArrayList<>(past);
            return s;
        }

        State with(int k, int strength) {
            State s = copy();
            s.knots.set(k, knots.get(k).with(strength));
            return s;
        }

        int strength(int row, int column) {
            return column > 3 ? 0 : knots.get(4 * row + column).strength;
        }

        int holds(int k) {
            Knot knot = knots.get(k);
            if (knot.strength == 0) {
                return 0;
            }
            return KINDS[knot.kind].holds(knot.strength, rain, strength(k / 4, k % 4 + 1));
        }

        int clauseHolds(int c) {
            int sum = 0;
            for (int k : corners(c)) {
                sum += holds(k);
            }
            return sum;
        }

        boolean law(int c) {
            return clauseHolds(c) >= wide[c];
        }

        int laws() {
            int bits = 0;
            for (int c = 0; c < 9; c++) {
                bits += law(c) ? 1 << c : 0;
            }
            return bits;
        }

        int tied() {
            int n = 0;
            for (Knot knot : knots) {
                n += knot.strength > 0 ? 1 : 0;
            }
            return n;
        }

        int passNight() {
            int before = tied();
            for (int k = 0; k < 16; k++) {
                Knot knot = knots.get(k);
                if ((hands & 1 << k) != 0) {
                    knots.set(k, knot.with(knot.strength - KINDS[knot.kind].rots(night)));
                }
            }
            night++;
            return before - tied();
        }
    }

    private static int[] corners(int c) {
        int[][] all = {
            {0, 1, 4, 5}, {1, 2, 5, 6}, {2, 3, 6, 7},
            {4, 5, 8, 9}, {5, 6, 9, 10}, {6, 7, 10, 11},
            {8, 9, 12, 13}, {9, 10, 13, 14}, {10, 11, 14, 15}};
        return all[c];
    }

    private static boolean has(int c, int k) {
        for (int corner : corners(c)) {
            if (corner == k) {
                return true;
            }
        }
        return false;
    }

    private State now = new State();
    private final State[] images = new State[2];
    private String text = "";
    private BigInteger above = BigInteger.ZERO;
    private BigInteger below = BigInteger.ONE;
    private final int[] refused = new int[3];

    private int bad(int answer) {
        refused[0]++;
        return answer;
    }

    private int no(int answer) {
        refused[1]++;
        return answer;
    }

    private int full() {
        refused[2]++;
        return -4;
    }

    private static boolean out(int n, int low, int high) {
        return n < low || n > high;
    }

    private void keep() {
        State was = now.copy();
        now.past.add(was);
        if (now.past.size() > 8) {
            now.past.remove(0);
        }
    }

    int net(int rain, int twine) {
        if (out(rain, 0, 1) || out(twine, 0, 99)) {
            return bad(-2);
        }
        int were = now.tied();
        now = new State();
        now.rain = rain == 1;
        now.twine = twine;
        return were;
    }

    int rain(int is) {
        if (out(is, 0, 1)) {
            return bad(-2);
        }
        int was = now.rain ? 1 : 0;
        now.rain = is == 1;
        return was;
    }

    int twine(int n) {
        if (out(n, 0, 99)) {
            return bad(-2);
        }
        int was = now.twine;
        now.twine = n;
        return was;
    }

    int hands(int knots) {
        if (out(knots, 0, 65535)) {
            return bad(-2);
        }
        int were = now.hands;
        now.hands = knots;
        return were;
    }

    int wide(int clause, int n) {
        if (out(clause, 0, 8) || out(n, 0, 30)) {
            return bad(-2);
        }
        int was = now.wide[clause];
        now.wide[clause] = n;
        return was;
    }

    int tie(int knot, int kind, int strength, int village) {
        if (out(knot, 0, 15) || out(kind, 0, 5) || out(strength, 1, 9) || out(village, 0, 2)) {
            return bad(-2);
        }
        keep();
        return now.knots.set(knot, new Knot(kind, strength, village)).strength;
    }

    int mend(int knot, int n) {
        if (out(knot, 0, 15) || out(n, 1, 9)) {
            return bad(-2);
        }
        int s = now.knots.get(knot).strength;
        if (s == 0 || s + n > 9 || now.twine < n) {
            return no(-3);
        }
        keep();
        now.knots.set(knot, now.knots.get(knot).with(s + n));
        now.twine -= n;
        return s + n;
    }

    int drop(int knot) {
        if (out(knot, 0, 15)) {
            return bad(-2);
        }
        int s = now.knots.get(knot).strength;
        if (s == 0) {
            return no(-3);
        }
        keep();
        now.knots.set(knot, now.knots.get(knot).with(0));
        return s;
    }

    int night() {
        keep();
        return now.passNight();
    }

    int undo() {
        if (now.past.isEmpty()) {
            return no(-3);
        }
        State was = now.past.remove(now.past.size() - 1);
        now.knots = new ArrayList<>(was.knots);
        now.twine = was.twine;
        now.night = was.night;
        return now.twine;
    }

    int type(int c) {
        if (out(c, 0, 127)) {
            return bad(-2);
        }
        if (text.length() == 150) {
            return full();
        }
        text += (char) c;
        return text.length();
    }

    int clear() {
        int had = text.length();
        text = "";
        return had;
    }

    /** By patterns: what stands of the whole text is cut off its front, token by token. */
    int read() {
        Matcher m = Pattern.compile(" *([a-z]+|[0-9]+|[^ ]|$)", Pattern.DOTALL).matcher(text);
        List<String> tokens = new ArrayList<>();
        List<Integer> places = new ArrayList<>();
        while (m.find()) {
            if (m.group(1).isEmpty()) {
                break;
            }
            tokens.add(m.group(1));
            places.add(m.start(1));
        }
        List<List<String>> items = new ArrayList<>();
        List<String> item = new ArrayList<>();
        for (int i = 0; i < tokens.size(); i++) {
            String token = tokens.get(i);
            if (!Pattern.matches(wanted(items.size(), item), token)) {
                return -10 - places.get(i);
            }
            item.add(token);
            if (token.equals(";")) {
                items.add(item);
                item = new ArrayList<>();
            }
        }
        if (items.isEmpty() || !item.isEmpty()) {
            return -10 - text.length();
        }
        return tell(items);
    }

    private static String wanted(int items, List<String> item) {
        if (item.isEmpty()) {
            return items == 0 ? "net" : "knot|wide";
        }
        int numbers = item.get(0).equals("knot") ? 4 : 2;
        return item.size() <= numbers ? "[0-9]{1,2}" : ";";
    }

    private int tell(List<List<String>> items) {
        Model fresh = new Model();
        for (int i = 0; i < items.size(); i++) {
            List<String> item = items.get(i);
            int[] n = new int[4];
            for (int j = 1; j < item.size() - 1; j++) {
                n[j - 1] = Integer.parseInt(item.get(j));
            }
            int answer;
            switch (item.get(0)) {
                case "net": answer = fresh.net(n[0], n[1]); break;
                case "knot": answer = fresh.tie(n[0], n[1], n[2], n[3]); break;
                default: answer = fresh.wide(n[0], n[1]); break;
            }
            if (answer < 0) {
                return -1000 - i;
            }
        }
        now = fresh.now;
        now.past.clear();
        return items.size();
    }

    int of(int knot, int what) {
        if (out(knot, 0, 15) || out(what, 0, 4)) {
            return bad(-2);
        }
        Knot k = now.knots.get(knot);
        int rots = k.strength == 0 ? 0 : KINDS[k.kind].rots(now.night);
        return new int[] {k.kind, k.strength, k.village, now.holds(knot), rots}[what];
    }

    int clause(int c, int what) {
        if (out(c, 0, 8) || out(what, 0, 2)) {
            return bad(-2);
        }
        return new int[] {now.wide[c], now.clauseHolds(c), now.law(c) ? 1 : 0}[what];
    }

    int laws() {
        return now.laws();
    }

    int holdsAll(int what) {
        if (out(what, 0, 1)) {
            return bad(-2);
        }
        int[] best = {-1, -1};
        for (int k = 15; k >= 0; k--) {
            if (now.knots.get(k).strength == 0) {
                continue;
            }
            State then = now.with(k, 0);
            int lost = 0;
            for (int c = 0; c < 9; c++) {
                lost += now.law(c) && !then.law(c) ? 1 : 0;
            }
            if (lost >= best[1]) {
                best = new int[] {k, lost};
            }
        }
        return best[what];
    }

    int dropped(int clause) {
        if (out(clause, 0, 8)) {
            return bad(-2);
        }
        if (!now.law(clause)) {
            return -1;
        }
        for (int size = 1; size <= 4; size++) {
            for (int bits = 1; bits < 65536; bits++) {
                if (Integer.bitCount(bits) == size && ofClause(clause, bits) && !without(bits).law(clause)) {
                    return bits;
                }
            }
        }
        return -1;
    }

    private static boolean ofClause(int clause, int bits) {
        for (int k = 0; k < 16; k++) {
            if ((bits >> k & 1) == 1 && !has(clause, k)) {
                return false;
            }
        }
        return true;
    }

    private State without(int bits) {
        State then = now.copy();
        for (int k = 0; k < 16; k++) {
            if ((bits >> k & 1) == 1) {
                then.knots.set(k, then.knots.get(k).with(0));
            }
        }
        return then;
    }

    /** By all rows from knot k on, kept by what is still needed: the best is the cheapest, then the first. */
    int least(int a, int b, int k) {
        if (out(a, 0, 8) || out(b, 0, 8) || out(k, -1, 15)) {
            return bad(-10);
        }
        int needA = Math.max(0, now.wide[a] - now.clauseHolds(a));
        int needB = Math.max(0, now.wide[b] - now.clauseHolds(b));
        int[] row = bestRow(0, a, b, needA, needB, new HashMap<>());
        if (row == null) {
            return -5;
        }
        return k == -1 ? Arrays.stream(row).sum() : row[k];
    }

    private int[] bestRow(int k, int a, int b, int needA, int needB, Map<Integer, int[]> known) {
        if (k == 16) {
            return needA == 0 && needB == 0 ? new int[16] : null;
        }
        int key = (k * 31 + needA) * 31 + needB;
        if (known.containsKey(key)) {
            return known.get(key);
        }
        int[] best = null;
        Knot knot = now.knots.get(k);
        boolean mendable = knot.strength > 0 && (has(a, k) || has(b, k));
        for (int n = 0; n <= (mendable ? 9 - knot.strength : 0); n++) {
            int gain = mendable ? now.with(k, knot.strength + n).holds(k) - now.holds(k) : 0;
            int leftA = has(a, k) ? Math.max(0, needA - gain) : needA;
            int leftB = has(b, k) ? Math.max(0, needB - gain) : needB;
            int[] rest = bestRow(k + 1, a, b, leftA, leftB, known);
            if (rest != null) {
                int[] row = rest.clone();
                row[k] = n;
                if (best == null || Arrays.stream(row).sum() < Arrays.stream(best).sum()) {
                    best = row;
                }
            }
        }
        known.put(key, best);
        return best;
    }

    /** By all ways that go through no clause twice. */
    int fish(int what) {
        if (out(what, 0, 1)) {
            return bad(-2);
        }
        int[] fewest = new int[3];
        int least = 100;
        for (int c = 0; c < 3; c++) {
            fewest[c] = shortest(c, 0);
            least = Math.min(least, fewest[c]);
        }
        if (least == 100) {
            return -1;
        }
        int bits = 0;
        for (int c = 0; c < 3; c++) {
            bits += fewest[c] == least ? 1 << c : 0;
        }
        return what == 0 ? least : bits;
    }

    private int shortest(int c, int seen) {
        if (now.law(c) || (seen & 1 << c) != 0) {
            return 100;
        }
        if (c >= 6) {
            return 1;
        }
        int best = 100;
        for (int d = 0; d < 9; d++) {
            if (Math.abs(c / 3 - d / 3) + Math.abs(c % 3 - d % 3) == 1) {
                best = Math.min(best, 1 + shortest(d, seen | 1 << c));
            }
        }
        return Math.min(best, 100);
    }

    int precedent(int i) {
        if (out(i, 0, 1)) {
            return bad(-2);
        }
        if (images[i] == null) {
            return no(-3);
        }
        int bits = 0;
        for (int c = 0; c < 9; c++) {
            int sum = 0;
            for (int k : corners(c)) {
                sum += Math.max(now.holds(k), images[i].holds(k));
            }
            bits += sum >= now.wide[c] ? 1 << c : 0;
        }
        return bits;
    }

    int reading(int strength, int rain, int v) {
        if (out(strength, 1, 9) || out(rain, 0, 1) || out(v, 0, 30)) {
            return bad(-2);
        }
        if (now.readings.size() == 6) {
            return full();
        }
        now.readings.add(new int[] {strength, rain, v});
        return now.readings.size();
    }

    int forget() {
        int were = now.readings.size();
        now.readings.clear();
        return were;
    }

    int may() {
        int bits = 63;
        for (int[] r : now.readings) {
            for (int kind = 0; kind < 6; kind++) {
                if (KINDS[kind].holds(r[0], r[1] == 1, 0) != r[2]) {
                    bits &= ~(1 << kind);
                }
            }
        }
        return bits;
    }

    int tries() {
        if (may() == 0) {
            return -1;
        }
        TreeMap<Integer, Integer> leastByMost = new TreeMap<>();
        for (int number = 19; number >= 1; number--) {
            if (number == 10) {
                continue;
            }
            Map<Integer, Integer> alike = new HashMap<>();
            for (int kind = 0; kind < 6; kind++) {
                if ((may() >> kind & 1) == 1) {
                    alike.merge(KINDS[kind].holds(number % 10, number > 10, 0), 1, Integer::sum);
                }
            }
            leastByMost.put(alike.values().stream().max(Integer::compare).orElse(0), number);
        }
        return leastByMost.firstEntry().getValue();
    }

    int stood(int knot, int clauses, int what) {
        if (out(knot, 0, 15) || out(clauses, 0, 511) || out(what, 0, 1)) {
            return bad(-10);
        }
        for (int c = 0; c < 9; c++) {
            if ((clauses >> c & 1) == 1 && !has(c, knot)) {
                return bad(-10);
            }
        }
        if (now.knots.get(knot).strength != 0) {
            return no(-20);
        }
        List<Integer> pairs = new ArrayList<>();
        for (int n = 1; n < 60; n++) {
            if (n % 10 != 0) {
                State then = now.copy();
                then.knots.set(knot, new Knot(n / 10, n % 10, 0));
                boolean fits = true;
                for (int c = 0; c < 9; c++) {
                    fits &= !has(c, knot) || then.law(c) == ((clauses >> c & 1) == 1);
                }
                if (fits) {
                    pairs.add(n);
                }
            }
        }
        return what == 0 ? pairs.size() : pairs.isEmpty() ? -1 : pairs.get(0);
    }

    int menders(int a, int b, int m, int what) {
        if (out(a, 0, 8) || out(b, 0, 8) || a == b || out(m, 1, 9) || out(what, 0, 1)) {
            return bad(-10);
        }
        List<Integer> pairs = new ArrayList<>();
        for (int one : choices(a)) {
            for (int other : choices(b)) {
                boolean rests = true;
                for (int else1 : choices(a)) {
                    rests &= gets(a, else1, else1, other, m) <= gets(a, one, one, other, m);
                }
                for (int else2 : choices(b)) {
                    rests &= gets(b, else2, one, else2, m) <= gets(b, other, one, other, m);
                }
                if (rests) {
                    pairs.add(17 * one + other);
                }
            }
        }
        return what == 0 ? pairs.size() : pairs.isEmpty() ? -1 : pairs.get(0);
    }

    private List<Integer> choices(int clause) {
        List<Integer> all = new ArrayList<>();
        for (int k : corners(clause)) {
            if (now.knots.get(k).strength > 0) {
                all.add(k);
            }
        }
        all.add(16);
        return all;
    }

    private int gets(int clause, int own, int one, int other, int m) {
        State then = now.copy();
        for (int k = 0; k < 16; k++) {
            int s = now.knots.get(k).strength + (k == one ? m : 0) + (k == other ? m : 0);
            then.knots.set(k, now.knots.get(k).with(Math.min(9, s)));
        }
        return (then.law(clause) ? 10 : 0) - (own == 16 ? 0 : m);
    }

    int odds(int clause, int c) {
        if (out(clause, 0, 8) || out(c, 0, 10)) {
            return bad(-2);
        }
        List<Integer> slipping = new ArrayList<>();
        for (int k = 0; k < 16; k++) {
            if (has(clause, k) || k % 4 != 0 && has(clause, k - 1)) {
                slipping.add(k);
            }
        }
        BigInteger sum = chance(clause, c, slipping, 0, 0);
        BigInteger all = BigInteger.TEN.pow(slipping.size());
        BigInteger gcd = sum.gcd(all);
        above = sum.divide(gcd);
        below = all.divide(gcd);
        return 1;
    }

    private BigInteger chance(int clause, int c, List<Integer> slipping, int i, int slipped) {
        if (i == slipping.size()) {
            return without(slipped).law(clause) ? BigInteger.ONE : BigInteger.ZERO;
        }
        BigInteger slips = chance(clause, c, slipping, i + 1, slipped | 1 << slipping.get(i));
        BigInteger stays = chance(clause, c, slipping, i + 1, slipped);
        return slips.multiply(BigInteger.valueOf(c)).add(stays.multiply(BigInteger.valueOf(10 - c)));
    }

    int drawn(int seed, int m) {
        if (out(seed, 0, 999999) || out(m, 0, 30)) {
            return bad(-2);
        }
        State then = now.copy();
        BigInteger x = BigInteger.valueOf(seed);
        for (int i = 0; i < m; i++) {
            x = x.multiply(BigInteger.valueOf(1103515245)).add(BigInteger.valueOf(12345))
                    .mod(BigInteger.ONE.shiftLeft(31));
            then.hands = x.shiftRight(15).mod(BigInteger.valueOf(65536)).intValueExact();
            then.passNight();
        }
        return Integer.bitCount(then.laws());
    }

    long part(int what) {
        if (out(what, 0, 1)) {
            return bad(-2);
        }
        return (what == 0 ? above : below).longValueExact();
    }

    int image(int i) {
        if (out(i, 0, 1)) {
            return bad(-2);
        }
        images[i] = now.copy();
        return 1;
    }

    int from(int i) {
        if (out(i, 0, 1)) {
            return bad(-2);
        }
        if (images[i] == null) {
            return no(-3);
        }
        now = images[i].copy();
        return 1;
    }

    int status(int what) {
        return out(what, 0, 2) ? bad(-1) : refused[what];
    }

    int count(int what) {
        if (out(what, 0, 7)) {
            return bad(-2);
        }
        return new int[] {now.tied(), now.rain ? 1 : 0, now.twine, now.hands, now.night,
            now.readings.size(), now.past.size(), text.length()}[what];
    }

    long digest() {
        List<Long> all = new ArrayList<>();
        for (int what = 0; what < 8; what++) {
            all.add((long) count(what));
        }
        for (Knot knot : now.knots) {
            all.add((long) knot.kind);
            all.add((long) knot.strength);
            all.add((long) knot.village);
        }
        for (int w : now.wide) {
            all.add((long) w);
        }
        for (int[] r : now.readings) {
            for (int v : r) {
                all.add((long) v);
            }
        }
        all.add(above.longValueExact());
        all.add(below.longValueExact());
        long h = 1087;
        for (long v : all) {
            h = 31 * h + v;
        }
        return h;
    }
}
