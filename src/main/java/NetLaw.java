import java.util.Arrays;

/** The fishers' law of the bay, knotted into a net: ../shared/DOC.md says what each call answers. */
public final class NetLaw {
    public static final int NONE = -1, BAD = -2, NO = -3, FULL = -4;

    private static final int SIDE = 4, KNOTS = 16, STRONGEST = 9, VILLAGES = 3;
    private static final int CLAUSE_SIDE = 3, CLAUSES = 9, CORNERS = 4, WIDEST = 30, WIDE_AT_FIRST = 9;
    private static final int MOST_TWINE = 99, ALL_HANDS = 65535;
    private static final int TARRED = 1, SHEET = 2, CORK = 3, LEAD = 4, SPLICE = 5, KINDS = 6;
    private static final int MOST_UNDONE = 8, MOST_READINGS = 6, MOST_HELD = 30;
    private static final int MOST_BYTES = 150, LAST_BYTE = 127;
    private static final int IMAGES = 2, COUNTS = 8;
    private static final int MOST_SEED = 999999, MOST_NIGHTS = 30;
    private static final int ODDS_WHOLE = 10, LAW_GAIN = 10, NO_KNOT = 16, CHOICES = 5;
    private static final int AS_BAD = 0, AS_NO = 1, AS_FULL = 2, REASONS = 3;
    private static final int BAD_BY_TEN = -10, NO_BY_TWENTY = -20, NO_MENDING = -5;
    private static final int FAULT_ANSWER = -10, ITEM_ANSWER = -1000;

    private final Net net = new Net();
    private final Past past = new Past();
    private final Readings readings = new Readings();
    private final Image[] images = new Image[IMAGES];
    private final Text text = new Text();
    private final Fraction fraction = new Fraction();
    private final int[] refusals = new int[REASONS];

    // Room for what is only supposed: made once, so that no call makes anything.
    private final Net trial = new Net();
    private final Mending mending = new Mending();
    private final int[] loose = new int[KNOTS];
    private final int[] oneGets = new int[CHOICES * CHOICES];
    private final int[] otherGets = new int[CHOICES * CHOICES];
    private final int[] ways = new int[CLAUSES];

    public NetLaw() {
        for (int i = 0; i < IMAGES; i++) {
            images[i] = new Image();
        }
    }

    // ---- a net

    public int net(int rain, int twine) {
        if (!netFits(rain, twine)) {
            return bad();
        }
        int tied = net.tiedKnots();
        tellAnew(rain, twine);
        return tied;
    }

    public int rain(int is) {
        if (!within(is, 0, 1)) {
            return bad();
        }
        int was = net.rain;
        net.rain = is;
        return was;
    }

    public int twine(int n) {
        if (!within(n, 0, MOST_TWINE)) {
            return bad();
        }
        int was = net.twine;
        net.twine = n;
        return was;
    }

    public int hands(int knots) {
        if (!within(knots, 0, ALL_HANDS)) {
            return bad();
        }
        int were = net.hands;
        net.hands = knots;
        return were;
    }

    public int wide(int clause, int n) {
        if (!wideFits(clause, n)) {
            return bad();
        }
        int was = net.wide[clause];
        net.wide[clause] = n;
        return was;
    }

    public int tie(int knot, int kind, int strength, int village) {
        if (!tieFits(knot, kind, strength, village)) {
            return bad();
        }
        int was = net.strength[knot];
        past.keep(net);
        net.tieKnot(knot, kind, strength, village);
        return was;
    }

    public int mend(int knot, int n) {
        if (!isKnot(knot) || !within(n, 1, STRONGEST)) {
            return bad();
        }
        if (net.isHole(knot) || net.strength[knot] + n > STRONGEST || n > net.twine) {
            return no();
        }
        past.keep(net);
        net.strength[knot] += n;
        net.twine -= n;
        return net.strength[knot];
    }

    public int drop(int knot) {
        if (!isKnot(knot)) {
            return bad();
        }
        if (net.isHole(knot)) {
            return no();
        }
        int was = net.strength[knot];
        past.keep(net);
        net.strength[knot] = 0;
        return was;
    }

    public int night() {
        past.keep(net);
        return net.passNight();
    }

    public int undo() {
        if (past.size == 0) {
            return no();
        }
        past.giveBack(net);
        return net.twine;
    }

    public int type(int c) {
        if (!within(c, 0, LAST_BYTE)) {
            return bad();
        }
        if (text.size >= MOST_BYTES) {
            return full();
        }
        text.append(c);
        return text.size;
    }

    public int clear() {
        int had = text.size;
        text.size = 0;
        return had;
    }

    public int read() {
        int fault = text.findFault();
        if (fault != NONE) {
            return FAULT_ANSWER - fault;
        }
        int refused = firstRefusedItem();
        if (refused != NONE) {
            return ITEM_ANSWER - refused;
        }
        for (int i = 0; i < text.items; i++) {
            tellItem(i);
        }
        return text.items;
    }

    public int of(int knot, int what) {
        if (!isKnot(knot)) {
            return bad();
        }
        switch (what) {
            case 0: return net.kind[knot];
            case 1: return net.strength[knot];
            case 2: return net.village[knot];
            case 3: return net.knotHolds(knot);
            case 4: return net.knotRots(knot);
            default: return bad();
        }
    }

    // ---- what is law

    public int clause(int c, int what) {
        if (!isClause(c)) {
            return bad();
        }
        switch (what) {
            case 0: return net.wide[c];
            case 1: return net.clauseHolds(c);
            case 2: return net.isLaw(c) ? 1 : 0;
            default: return bad();
        }
    }

    public int laws() {
        return net.lawBits();
    }

    public int holdsAll(int what) {
        if (!within(what, 0, 1)) {
            return bad();
        }
        int lawful = net.lawBits();
        int which = NONE;
        int most = NONE;
        trial.takeFrom(net);
        for (int k = 0; k < KNOTS; k++) {
            if (net.isHole(k)) {
                continue;
            }
            trial.strength[k] = 0;
            int lost = Integer.bitCount(lawful & ~trial.lawBits());
            trial.strength[k] = net.strength[k];
            if (lost > most) {
                which = k;
                most = lost;
            }
        }
        return what == 0 ? which : most;
    }

    public int dropped(int clause) {
        if (!isClause(clause)) {
            return bad();
        }
        if (!net.isLaw(clause)) {
            return NONE;
        }
        int best = NONE;
        for (int corners = 0; corners < 1 << CORNERS; corners++) {
            int knots = knotBits(clause, corners);
            // Corners rise with their bits, so that of like ones the first is the least.
            boolean fewer = best == NONE || Integer.bitCount(knots) < Integer.bitCount(best);
            if (fewer && !isLawWithout(clause, knots)) {
                best = knots;
            }
        }
        return best;
    }

    public int least(int a, int b, int k) {
        if (!isClause(a) || !isClause(b) || !within(k, NONE, KNOTS - 1)) {
            return badByTen();
        }
        int twine = mending.leastTwine(net, a, b);
        if (twine == NONE) {
            return NO_MENDING;
        }
        return k == NONE ? twine : mending.bestRow[k];
    }

    public int fish(int what) {
        if (!within(what, 0, 1)) {
            return bad();
        }
        findWays(net.lawBits());
        int fewest = NONE;
        int starts = 0;
        for (int c = 0; c < CLAUSE_SIDE; c++) {
            if (ways[c] == NONE) {
                continue;
            }
            if (fewest == NONE || ways[c] < fewest) {
                fewest = ways[c];
                starts = 0;
            }
            if (ways[c] == fewest) {
                starts |= 1 << c;
            }
        }
        return what == 0 || fewest == NONE ? fewest : starts;
    }

    public int precedent(int i) {
        if (!isImage(i)) {
            return bad();
        }
        if (!images[i].kept) {
            return no();
        }
        int bits = 0;
        for (int c = 0; c < CLAUSES; c++) {
            int holds = 0;
            for (int corner = 0; corner < CORNERS; corner++) {
                int k = knotAt(c, corner);
                holds += Math.max(net.knotHolds(k), images[i].net.knotHolds(k));
            }
            if (holds >= net.wide[c]) {
                bits |= 1 << c;
            }
        }
        return bits;
    }

    // ---- who tied it

    public int reading(int strength, int rain, int v) {
        if (!within(strength, 1, STRONGEST) || !within(rain, 0, 1) || !within(v, 0, MOST_HELD)) {
            return bad();
        }
        if (readings.size >= MOST_READINGS) {
            return full();
        }
        readings.append(strength, rain, v);
        return readings.size;
    }

    public int forget() {
        int were = readings.size;
        readings.size = 0;
        return were;
    }

    public int may() {
        return readings.fittingKinds();
    }

    public int tries() {
        return readings.bestTry();
    }

    public int stood(int knot, int clauses, int what) {
        if (!isKnot(knot) || !within(what, 0, 1)) {
            return badByTen();
        }
        int around = clausesAround(knot);
        if ((clauses & ~around) != 0) {
            return badByTen();
        }
        if (!net.isHole(knot)) {
            return refuse(AS_NO, NO_BY_TWENTY);
        }
        int pairs = 0;
        int first = NONE;
        trial.takeFrom(net);
        for (int kind = 0; kind < KINDS; kind++) {
            for (int strength = 1; strength <= STRONGEST; strength++) {
                trial.tieKnot(knot, kind, strength, 0);
                if ((trial.lawBits() & around) == clauses) {
                    pairs++;
                    first = first == NONE ? 10 * kind + strength : first;
                }
            }
        }
        return what == 0 ? pairs : first;
    }

    public int menders(int a, int b, int m, int what) {
        if (!isClause(a) || !isClause(b) || a == b) {
            return badByTen();
        }
        if (!within(m, 1, STRONGEST) || !within(what, 0, 1)) {
            return badByTen();
        }
        fillGets(a, b, m);
        int pairs = 0;
        int first = NONE;
        for (int one = 0; one < CHOICES; one++) {
            for (int other = 0; other < CHOICES; other++) {
                if (mayChoose(a, one) && mayChoose(b, other) && rests(a, b, one, other)) {
                    pairs++;
                    int pair = (NO_KNOT + 1) * chosen(a, one) + chosen(b, other);
                    first = first == NONE ? pair : first;
                }
            }
        }
        return what == 0 ? pairs : first;
    }

    public int odds(int clause, int c) {
        if (!isClause(clause) || !within(c, 0, ODDS_WHOLE)) {
            return bad();
        }
        int count = listLoose(clause);
        long above = 0;
        long below = 1;
        for (int i = 0; i < count; i++) {
            below *= ODDS_WHOLE;
        }
        for (int slips = 0; slips < 1 << count; slips++) {
            long weight = slipWeight(slips, count, c);
            if (weight != 0 && isLawWithout(clause, looseBits(slips, count))) {
                above += weight;
            }
        }
        fraction.become(above, below);
        return 1;
    }

    public int drawn(int seed, int m) {
        if (!within(seed, 0, MOST_SEED) || !within(m, 0, MOST_NIGHTS)) {
            return bad();
        }
        trial.takeFrom(net);
        long x = seed;
        for (int i = 0; i < m; i++) {
            x = (x * 1103515245L + 12345L) % 2147483648L;
            trial.hands = (int) (x / 32768L % 65536L);
            trial.passNight();
        }
        return Integer.bitCount(trial.lawBits());
    }

    // ---- what there is

    public long part(int what) {
        switch (what) {
            case 0: return fraction.above;
            case 1: return fraction.below;
            default: return bad();
        }
    }

    public int image(int i) {
        if (!isImage(i)) {
            return bad();
        }
        images[i].kept = true;
        images[i].net.takeFrom(net);
        images[i].past.takeFrom(past);
        images[i].readings.takeFrom(readings);
        return 1;
    }

    public int from(int i) {
        if (!isImage(i)) {
            return bad();
        }
        if (!images[i].kept) {
            return no();
        }
        net.takeFrom(images[i].net);
        past.takeFrom(images[i].past);
        readings.takeFrom(images[i].readings);
        return 1;
    }

    public int status(int what) {
        if (!within(what, 0, REASONS - 1)) {
            return refuse(AS_BAD, NONE);
        }
        return refusals[what];
    }

    public int count(int what) {
        return within(what, 0, COUNTS - 1) ? howMany(what) : bad();
    }

    public long digest() {
        long h = 1087;
        for (int what = 0; what < COUNTS; what++) {
            h = 31 * h + howMany(what);
        }
        h = net.digestOn(h);
        h = readings.digestOn(h);
        h = 31 * h + fraction.above;
        return 31 * h + fraction.below;
    }

    // What is refused, and what is as told.

    private int refuse(int reason, int answer) {
        refusals[reason]++;
        return answer;
    }

    private int bad() {
        return refuse(AS_BAD, BAD);
    }

    private int badByTen() {
        return refuse(AS_BAD, BAD_BY_TEN);
    }

    private int no() {
        return refuse(AS_NO, NO);
    }

    private int full() {
        return refuse(AS_FULL, FULL);
    }

    private static boolean within(int n, int low, int high) {
        return low <= n && n <= high;
    }

    private static boolean isKnot(int k) {
        return within(k, 0, KNOTS - 1);
    }

    private static boolean isClause(int c) {
        return within(c, 0, CLAUSES - 1);
    }

    private static boolean isImage(int i) {
        return within(i, 0, IMAGES - 1);
    }

    private static boolean netFits(int rain, int twine) {
        return within(rain, 0, 1) && within(twine, 0, MOST_TWINE);
    }

    private static boolean tieFits(int knot, int kind, int strength, int village) {
        return isKnot(knot) && within(kind, 0, KINDS - 1)
                && within(strength, 1, STRONGEST) && within(village, 0, VILLAGES - 1);
    }

    private static boolean wideFits(int clause, int n) {
        return isClause(clause) && within(n, 0, WIDEST);
    }

    private int howMany(int what) {
        switch (what) {
            case 0: return net.tiedKnots();
            case 1: return net.rain;
            case 2: return net.twine;
            case 3: return net.hands;
            case 4: return net.night;
            case 5: return readings.size;
            case 6: return past.size;
            default: return text.size;
        }
    }

    // A net that is told anew.

    private void tellAnew(int rain, int twine) {
        net.startAnew(rain, twine);
        past.size = 0;
        readings.size = 0;
    }

    // Whether an item is refused hangs on its numbers alone, so all are looked at before any is told.
    private int firstRefusedItem() {
        for (int i = 0; i < text.items; i++) {
            if (!itemFits(i)) {
                return i;
            }
        }
        return NONE;
    }

    private boolean itemFits(int i) {
        switch (text.itemWord(i)) {
            case Text.NET_WORD:
                return netFits(text.itemNumber(i, 0), text.itemNumber(i, 1));
            case Text.KNOT_WORD:
                return tieFits(text.itemNumber(i, 0), text.itemNumber(i, 1),
                        text.itemNumber(i, 2), text.itemNumber(i, 3));
            default:
                return wideFits(text.itemNumber(i, 0), text.itemNumber(i, 1));
        }
    }

    private void tellItem(int i) {
        switch (text.itemWord(i)) {
            case Text.NET_WORD:
                tellAnew(text.itemNumber(i, 0), text.itemNumber(i, 1));
                break;
            case Text.KNOT_WORD:
                net.tieKnot(text.itemNumber(i, 0), text.itemNumber(i, 1),
                        text.itemNumber(i, 2), text.itemNumber(i, 3));
                break;
            default:
                net.wide[text.itemNumber(i, 0)] = text.itemNumber(i, 1);
                break;
        }
    }

    // Where knots and clauses lie.

    private static int knotAt(int clause, int corner) {
        int row = clause / CLAUSE_SIDE + corner / 2;
        int column = clause % CLAUSE_SIDE + corner % 2;
        return row * SIDE + column;
    }

    private static boolean hasKnot(int clause, int knot) {
        for (int corner = 0; corner < CORNERS; corner++) {
            if (knotAt(clause, corner) == knot) {
                return true;
            }
        }
        return false;
    }

    private static int knotBits(int clause, int corners) {
        int bits = 0;
        for (int corner = 0; corner < CORNERS; corner++) {
            if ((corners >> corner & 1) != 0) {
                bits |= 1 << knotAt(clause, corner);
            }
        }
        return bits;
    }

    private static int clausesAround(int knot) {
        int bits = 0;
        for (int c = 0; c < CLAUSES; c++) {
            if (hasKnot(c, knot)) {
                bits |= 1 << c;
            }
        }
        return bits;
    }

    private boolean isLawWithout(int clause, int knots) {
        trial.takeFrom(net);
        for (int k = 0; k < KNOTS; k++) {
            if ((knots >> k & 1) != 0) {
                trial.strength[k] = 0;
            }
        }
        return trial.isLaw(clause);
    }

    // The fish: ways[c] is how many clauses it goes through from c to the lower row.

    private void findWays(int lawful) {
        for (int c = 0; c < CLAUSES; c++) {
            boolean ends = c >= CLAUSES - CLAUSE_SIDE && (lawful >> c & 1) == 0;
            ways[c] = ends ? 1 : NONE;
        }
        for (int gone = 1; gone < CLAUSES; gone++) {
            for (int c = 0; c < CLAUSES; c++) {
                if (ways[c] == NONE && (lawful >> c & 1) == 0 && isBesideWay(c, gone)) {
                    ways[c] = gone + 1;
                }
            }
        }
    }

    private boolean isBesideWay(int clause, int gone) {
        int row = clause / CLAUSE_SIDE;
        int column = clause % CLAUSE_SIDE;
        return row > 0 && ways[clause - CLAUSE_SIDE] == gone
                || row < CLAUSE_SIDE - 1 && ways[clause + CLAUSE_SIDE] == gone
                || column > 0 && ways[clause - 1] == gone
                || column < CLAUSE_SIDE - 1 && ways[clause + 1] == gone;
    }

    // The menders: a choice is a corner of the own clause, or the last one: none.

    private static int chosen(int clause, int choice) {
        return choice < CORNERS ? knotAt(clause, choice) : NO_KNOT;
    }

    private boolean mayChoose(int clause, int choice) {
        return choice == CORNERS || !net.isHole(knotAt(clause, choice));
    }

    private void fillGets(int a, int b, int m) {
        trial.takeFrom(net);
        for (int one = 0; one < CHOICES; one++) {
            for (int other = 0; other < CHOICES; other++) {
                if (!mayChoose(a, one) || !mayChoose(b, other)) {
                    continue;
                }
                mendTrial(chosen(a, one), m);
                mendTrial(chosen(b, other), m);
                int pair = one * CHOICES + other;
                oneGets[pair] = gain(a, one, m);
                otherGets[pair] = gain(b, other, m);
                takeBack(chosen(a, one));
                takeBack(chosen(b, other));
            }
        }
    }

    private void mendTrial(int knot, int m) {
        if (isKnot(knot)) {
            trial.strength[knot] = Math.min(STRONGEST, trial.strength[knot] + m);
        }
    }

    private void takeBack(int knot) {
        if (isKnot(knot)) {
            trial.strength[knot] = net.strength[knot];
        }
    }

    private int gain(int clause, int choice, int m) {
        return (trial.isLaw(clause) ? LAW_GAIN : 0) - (choice < CORNERS ? m : 0);
    }

    private boolean rests(int a, int b, int one, int other) {
        int pair = one * CHOICES + other;
        for (int choice = 0; choice < CHOICES; choice++) {
            if (mayChoose(a, choice) && oneGets[choice * CHOICES + other] > oneGets[pair]) {
                return false;
            }
            if (mayChoose(b, choice) && otherGets[one * CHOICES + choice] > otherGets[pair]) {
                return false;
            }
        }
        return true;
    }

    // The odds: loose are the knots that slip.

    private int listLoose(int clause) {
        int count = 0;
        for (int k = 0; k < KNOTS; k++) {
            boolean rightOfOne = k % SIDE > 0 && hasKnot(clause, k - 1);
            if (hasKnot(clause, k) || rightOfOne) {
                loose[count] = k;
                count++;
            }
        }
        return count;
    }

    private int looseBits(int slips, int count) {
        int bits = 0;
        for (int i = 0; i < count; i++) {
            if ((slips >> i & 1) != 0) {
                bits |= 1 << loose[i];
            }
        }
        return bits;
    }

    private static long slipWeight(int slips, int count, int c) {
        long weight = 1;
        for (int i = 0; i < count; i++) {
            weight *= (slips >> i & 1) != 0 ? c : ODDS_WHOLE - c;
        }
        return weight;
    }

    // The kinds, each told by the one that it is under.

    private static int kindHolds(int kind, int strength, int rain, int right) {
        if (strength <= 0) {
            return 0;
        }
        int reef = strength - rain;
        int tarred = strength;
        int sheet = 2 * reef;
        switch (kind) {
            case TARRED: return tarred;
            case SHEET: return sheet;
            case CORK: return (tarred + 1) / 2;
            case LEAD: return sheet + (rain == 0 ? 3 : 0);
            case SPLICE: return reef + right / 2;
            default: return reef;
        }
    }

    private static int kindRots(int kind, int night) {
        int reef = 1;
        int tarred = night % 2 != 0 ? reef : 0;
        int sheet = reef + 1;
        switch (kind) {
            case TARRED: return tarred;
            case SHEET: return sheet;
            case CORK: return tarred;
            case LEAD: return night % 3 == 0 ? sheet : sheet - 1;
            default: return reef;
        }
    }

    /** Knots and clauses, the rain they stand in, and what is law by them. */
    private static final class Net {
        int rain;
        int twine;
        int hands;
        int night;
        final int[] kind = new int[KNOTS];
        final int[] strength = new int[KNOTS];
        final int[] village = new int[KNOTS];
        final int[] wide = new int[CLAUSES];

        Net() {
            Arrays.fill(wide, WIDE_AT_FIRST);
        }

        void startAnew(int rainNow, int twineNow) {
            rain = rainNow;
            twine = twineNow;
            hands = 0;
            night = 0;
            Arrays.fill(kind, 0);
            Arrays.fill(strength, 0);
            Arrays.fill(village, 0);
            Arrays.fill(wide, WIDE_AT_FIRST);
        }

        void takeFrom(Net other) {
            rain = other.rain;
            twine = other.twine;
            hands = other.hands;
            night = other.night;
            System.arraycopy(other.kind, 0, kind, 0, KNOTS);
            System.arraycopy(other.strength, 0, strength, 0, KNOTS);
            System.arraycopy(other.village, 0, village, 0, KNOTS);
            System.arraycopy(other.wide, 0, wide, 0, CLAUSES);
        }

        void tieKnot(int k, int itsKind, int itsStrength, int itsVillage) {
            kind[k] = itsKind;
            strength[k] = itsStrength;
            village[k] = itsVillage;
        }

        boolean isHole(int k) {
            return strength[k] == 0;
        }

        int tiedKnots() {
            int tied = 0;
            for (int k = 0; k < KNOTS; k++) {
                tied += isHole(k) ? 0 : 1;
            }
            return tied;
        }

        int strengthRightOf(int k) {
            return k % SIDE < SIDE - 1 ? strength[k + 1] : 0;
        }

        int knotHolds(int k) {
            return kindHolds(kind[k], strength[k], rain, strengthRightOf(k));
        }

        int knotRots(int k) {
            return isHole(k) ? 0 : kindRots(kind[k], night);
        }

        int clauseHolds(int c) {
            int holds = 0;
            for (int corner = 0; corner < CORNERS; corner++) {
                holds += knotHolds(knotAt(c, corner));
            }
            return holds;
        }

        boolean isLaw(int c) {
            return clauseHolds(c) >= wide[c];
        }

        int lawBits() {
            int bits = 0;
            for (int c = 0; c < CLAUSES; c++) {
                if (isLaw(c)) {
                    bits |= 1 << c;
                }
            }
            return bits;
        }

        int passNight() {
            int holes = 0;
            for (int k = 0; k < KNOTS; k++) {
                if ((hands >> k & 1) == 0 || isHole(k)) {
                    continue;
                }
                strength[k] = Math.max(0, strength[k] - knotRots(k));
                holes += isHole(k) ? 1 : 0;
            }
            night++;
            return holes;
        }

        long digestOn(long start) {
            long h = start;
            for (int k = 0; k < KNOTS; k++) {
                h = 31 * h + kind[k];
                h = 31 * h + strength[k];
                h = 31 * h + village[k];
            }
            for (int c = 0; c < CLAUSES; c++) {
                h = 31 * h + wide[c];
            }
            return h;
        }
    }

    /** What may be undone: knots, twine and the night as they were, the oldest first. */
    private static final class Past {
        private static final int TWINE_AT = 3 * KNOTS, NIGHT_AT = TWINE_AT + 1, ROW = NIGHT_AT + 1;

        int size;
        final int[] rows = new int[MOST_UNDONE * ROW];

        void keep(Net net) {
            if (size >= MOST_UNDONE) {
                System.arraycopy(rows, ROW, rows, 0, (MOST_UNDONE - 1) * ROW);
                size = MOST_UNDONE - 1;
            }
            int start = size * ROW;
            System.arraycopy(net.kind, 0, rows, start, KNOTS);
            System.arraycopy(net.strength, 0, rows, start + KNOTS, KNOTS);
            System.arraycopy(net.village, 0, rows, start + 2 * KNOTS, KNOTS);
            rows[start + TWINE_AT] = net.twine;
            rows[start + NIGHT_AT] = net.night;
            size++;
        }

        void giveBack(Net net) {
            if (size <= 0) {
                return;
            }
            size--;
            int start = size * ROW;
            System.arraycopy(rows, start, net.kind, 0, KNOTS);
            System.arraycopy(rows, start + KNOTS, net.strength, 0, KNOTS);
            System.arraycopy(rows, start + 2 * KNOTS, net.village, 0, KNOTS);
            net.twine = rows[start + TWINE_AT];
            net.night = rows[start + NIGHT_AT];
        }

        void takeFrom(Past other) {
            size = other.size;
            System.arraycopy(other.rows, 0, rows, 0, size * ROW);
        }
    }

    /** What one unknown knot held, and which kinds it may be by that. */
    private static final class Readings {
        int size;
        final int[] strength = new int[MOST_READINGS];
        final int[] rain = new int[MOST_READINGS];
        final int[] held = new int[MOST_READINGS];

        void append(int itsStrength, int itsRain, int v) {
            if (size >= MOST_READINGS) {
                return;
            }
            strength[size] = itsStrength;
            rain[size] = itsRain;
            held[size] = v;
            size++;
        }

        void takeFrom(Readings other) {
            size = other.size;
            System.arraycopy(other.strength, 0, strength, 0, size);
            System.arraycopy(other.rain, 0, rain, 0, size);
            System.arraycopy(other.held, 0, held, 0, size);
        }

        int fittingKinds() {
            int bits = 0;
            for (int kind = 0; kind < KINDS; kind++) {
                if (fitsAll(kind)) {
                    bits |= 1 << kind;
                }
            }
            return bits;
        }

        boolean fitsAll(int kind) {
            for (int i = 0; i < size; i++) {
                if (kindHolds(kind, strength[i], rain[i], 0) != held[i]) {
                    return false;
                }
            }
            return true;
        }

        int bestTry() {
            int kinds = fittingKinds();
            if (kinds == 0) {
                return NONE;
            }
            int best = NONE;
            int fewest = KINDS + 1;
            for (int wet = 0; wet <= 1; wet++) {
                for (int s = 1; s <= STRONGEST; s++) {
                    int alike = mostAlike(kinds, s, wet);
                    if (alike < fewest) {
                        fewest = alike;
                        best = 10 * wet + s;
                    }
                }
            }
            return best;
        }

        static int mostAlike(int kinds, int s, int wet) {
            int most = 0;
            for (int kind = 0; kind < KINDS; kind++) {
                if ((kinds >> kind & 1) != 0) {
                    most = Math.max(most, countAlike(kinds, kindHolds(kind, s, wet, 0), s, wet));
                }
            }
            return most;
        }

        static int countAlike(int kinds, int holds, int s, int wet) {
            int alike = 0;
            for (int kind = 0; kind < KINDS; kind++) {
                if ((kinds >> kind & 1) != 0 && kindHolds(kind, s, wet, 0) == holds) {
                    alike++;
                }
            }
            return alike;
        }

        long digestOn(long start) {
            long h = start;
            for (int i = 0; i < size; i++) {
                h = 31 * h + strength[i];
                h = 31 * h + rain[i];
                h = 31 * h + held[i];
            }
            return h;
        }
    }

    /** What image(i) keeps; nothing of it counts before it is kept. */
    private static final class Image {
        boolean kept;
        final Net net = new Net();
        final Past past = new Past();
        final Readings readings = new Readings();
    }

    /** A fraction in lowest terms. */
    private static final class Fraction {
        private static final int MOST_STEPS = 100;

        long above = 0;
        long below = 1;

        void become(long over, long under) {
            long common = commonDivisor(over, under);
            if (common > 0) {
                above = over / common;
                below = under / common;
            }
        }

        static long commonDivisor(long a, long b) {
            long x = a;
            long y = b;
            for (int i = 0; i < MOST_STEPS && y != 0; i++) {
                long left = x % y;
                x = y;
                y = left;
            }
            return x;
        }
    }

    /**
     * The least twine for two clauses. What the knots of one clause alone gain counts for that
     * one only: so their costs are told apart, and just the shared knots (two at most, of unlike
     * clauses) are gone through together.
     */
    private static final class Mending {
        private static final int NEEDS = WIDEST + 1, OUT_OF_REACH = 1000;
        private static final int LISTED = CORNERS + 1, MOST_SHARED = 2, GAINS = STRONGEST + 1;

        final int[] bestRow = new int[KNOTS];
        private final int[] row = new int[KNOTS];
        private final int[] need = new int[2];
        private final int[] own = new int[2 * CORNERS];
        private final int[] owned = new int[2];
        private final int[] shared = new int[MOST_SHARED];
        private int sharedKnots;
        // For each knot: how much twine it takes, and what it gains by so much.
        private final int[] room = new int[KNOTS];
        private final int[] gains = new int[KNOTS * GAINS];
        // For each side and each own knot: the least twine by it and those behind it, by need.
        private final int[] costs = new int[2 * LISTED * NEEDS];

        /** How much, or NONE; bestRow is what each knot gets. */
        int leastTwine(Net net, int a, int b) {
            owned[0] = 0;
            owned[1] = 0;
            sharedKnots = 0;
            for (int corner = 0; corner < CORNERS; corner++) {
                listCorners(net, a, b, corner);
            }
            need[0] = net.wide[a] - net.clauseHolds(a);
            need[1] = net.wide[b] - net.clauseHolds(b);
            if (a == b) {
                need[1] = 0;
            }
            fillCosts(0);
            fillCosts(1);
            return leastOverShared();
        }

        // Alike clauses share nothing here: all their knots are the first one's own.
        private void listCorners(Net net, int a, int b, int corner) {
            int ofA = knotAt(a, corner);
            int ofB = knotAt(b, corner);
            fillGains(net, ofA);
            fillGains(net, ofB);
            if (a == b || !hasKnot(b, ofA)) {
                listOwn(0, ofA);
            } else if (sharedKnots < MOST_SHARED) {
                shared[sharedKnots] = ofA;
                sharedKnots++;
            }
            if (!hasKnot(a, ofB)) {
                listOwn(1, ofB);
            }
        }

        private void listOwn(int side, int k) {
            own[side * CORNERS + owned[side]] = k;
            owned[side]++;
        }

        // A hole takes no twine and so gains nothing: it may be listed like the others.
        private void fillGains(Net net, int k) {
            int strength = net.strength[k];
            int right = net.strengthRightOf(k);
            int now = net.knotHolds(k);
            room[k] = strength == 0 ? 0 : STRONGEST - strength;
            for (int twine = 0; twine <= room[k]; twine++) {
                int then = kindHolds(net.kind[k], strength + twine, net.rain, right);
                gains[k * GAINS + twine] = then - now;
            }
        }

        private int gained(int k, int twine) {
            return gains[k * GAINS + twine];
        }

        private void fillCosts(int side) {
            clearCosts(side, owned[side]);
            costs[(side * LISTED + owned[side]) * NEEDS] = 0;
            for (int i = owned[side] - 1; i >= 0; i--) {
                int k = own[side * CORNERS + i];
                clearCosts(side, i);
                for (int twine = 0; twine <= room[k]; twine++) {
                    lowerCosts(side, i, twine, gained(k, twine));
                }
            }
        }

        private void clearCosts(int side, int i) {
            int start = (side * LISTED + i) * NEEDS;
            for (int left = 0; left < NEEDS; left++) {
                costs[start + left] = OUT_OF_REACH;
            }
        }

        private void lowerCosts(int side, int i, int twine, int gain) {
            int start = (side * LISTED + i) * NEEDS;
            for (int left = 0; left < NEEDS; left++) {
                int cost = twine + costOf(side, i + 1, left - gain);
                costs[start + left] = Math.min(costs[start + left], cost);
            }
        }

        private int costOf(int side, int i, int left) {
            return costs[(side * LISTED + i) * NEEDS + Math.max(0, left)];
        }

        private int leastOverShared() {
            int firstRoom = sharedKnots > 0 ? room[shared[0]] : 0;
            int secondRoom = sharedKnots > 1 ? room[shared[1]] : 0;
            int best = OUT_OF_REACH;
            for (int first = 0; first <= firstRoom; first++) {
                for (int second = 0; second <= secondRoom; second++) {
                    best = tryShared(first, second, best);
                }
            }
            return best < OUT_OF_REACH ? best : NONE;
        }

        // The best there is, when the shared knots get so much, too.
        private int tryShared(int first, int second, int best) {
            int gain = 0;
            if (sharedKnots > 0) {
                gain += gained(shared[0], first);
            }
            if (sharedKnots > 1) {
                gain += gained(shared[1], second);
            }
            int cost = first + second + costOf(0, 0, need[0] - gain) + costOf(1, 0, need[1] - gain);
            if (cost >= OUT_OF_REACH || cost > best) {
                return best;
            }
            fillRow(first, second, gain);
            if (cost == best && !isRowBefore()) {
                return best;
            }
            System.arraycopy(row, 0, bestRow, 0, KNOTS);
            return cost;
        }

        private void fillRow(int first, int second, int gain) {
            Arrays.fill(row, 0);
            if (sharedKnots > 0) {
                row[shared[0]] = first;
            }
            if (sharedKnots > 1) {
                row[shared[1]] = second;
            }
            fillOwn(0, need[0] - gain);
            fillOwn(1, need[1] - gain);
        }

        // The least that each may get, from the first on, gives the first row of like ones.
        private void fillOwn(int side, int want) {
            int left = want;
            for (int i = 0; i < owned[side]; i++) {
                int k = own[side * CORNERS + i];
                int cost = costOf(side, i, left);
                int twine = 0;
                while (twine < room[k] && twine + costOf(side, i + 1, left - gained(k, twine)) > cost) {
                    twine++;
                }
                row[k] = twine;
                left -= gained(k, twine);
            }
        }

        private boolean isRowBefore() {
            for (int k = 0; k < KNOTS; k++) {
                if (row[k] != bestRow[k]) {
                    return row[k] < bestRow[k];
                }
            }
            return false;
        }
    }

    /** The text that is typed, its tokens, and the items that they make. */
    private static final class Text {
        static final int NET_WORD = 0, KNOT_WORD = 1, WIDE_WORD = 2;
        private static final int NUMBER = 3, STOP = 4, END = 5, NOTHING = 6;
        private static final int MOST_FIGURES = 2;
        private static final int ITEM_ROW = 5, SHORTEST_ITEM = 7, MOST_ITEMS = MOST_BYTES / SHORTEST_ITEM + 1;

        int size;
        int items;
        private final byte[] bytes = new byte[MOST_BYTES];
        private final int[] rows = new int[MOST_ITEMS * ITEM_ROW];
        private int place;
        private int token;
        private int tokenStart;
        private int tokenNumber;

        void append(int c) {
            if (size < MOST_BYTES) {
                bytes[size] = (byte) c;
                size++;
            }
        }

        int itemWord(int i) {
            return rows[i * ITEM_ROW];
        }

        int itemNumber(int i, int which) {
            return rows[i * ITEM_ROW + 1 + which];
        }

        /** Lists the items; the place of the fault, or NONE. */
        int findFault() {
            place = 0;
            items = 0;
            for (int i = 0; i < MOST_ITEMS; i++) {
                takeToken();
                if (token == END && items > 0) {
                    return NONE;
                }
                if (!takeItem()) {
                    return tokenStart;
                }
                items++;
            }
            // Not reached: a text has no room for so many items.
            return size;
        }

        // Stops at the token that can not stand there: tokenStart tells its place.
        private boolean takeItem() {
            boolean begins = items == 0 ? token == NET_WORD : token == KNOT_WORD || token == WIDE_WORD;
            if (!begins) {
                return false;
            }
            int start = items * ITEM_ROW;
            rows[start] = token;
            int numbers = token == KNOT_WORD ? 4 : 2;
            for (int i = 1; i <= numbers; i++) {
                takeToken();
                if (token != NUMBER) {
                    return false;
                }
                rows[start + i] = tokenNumber;
            }
            takeToken();
            return token == STOP;
        }

        private void takeToken() {
            while (place < size && bytes[place] == ' ') {
                place++;
            }
            tokenStart = place;
            if (place >= size) {
                token = END;
            } else if (isLetter(bytes[place])) {
                takeWord();
            } else if (isFigure(bytes[place])) {
                takeNumber();
            } else {
                token = bytes[place] == ';' ? STOP : NOTHING;
                place++;
            }
        }

        private void takeWord() {
            while (place < size && isLetter(bytes[place])) {
                place++;
            }
            if (tokenIs("net")) {
                token = NET_WORD;
            } else if (tokenIs("knot")) {
                token = KNOT_WORD;
            } else {
                token = tokenIs("wide") ? WIDE_WORD : NOTHING;
            }
        }

        private boolean tokenIs(String word) {
            if (place - tokenStart != word.length()) {
                return false;
            }
            for (int i = 0; i < word.length(); i++) {
                if (bytes[tokenStart + i] != word.charAt(i)) {
                    return false;
                }
            }
            return true;
        }

        private void takeNumber() {
            tokenNumber = 0;
            while (place < size && isFigure(bytes[place])) {
                // A long row of figures wraps around here, but is no number then.
                tokenNumber = 10 * tokenNumber + bytes[place] - '0';
                place++;
            }
            token = place - tokenStart <= MOST_FIGURES ? NUMBER : NOTHING;
        }

        private static boolean isLetter(int c) {
            return c >= 'a' && c <= 'z';
        }

        private static boolean isFigure(int c) {
            return c >= '0' && c <= '9';
        }
    }
}
