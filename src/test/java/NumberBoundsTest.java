import java.util.function.ToLongFunction;

/**
 * "Refused, changing nothing but STATUS, the first of: BAD -2 a number is not as told; ..": each number of each
 * call, just inside its bounds, at them, just outside and far outside.
 */
public final class NumberBoundsTest {
    private static final int BY_TEN = -10;

    private interface Call {
        long on(NetLaw x, int n);
    }

    public static void main(String[] args) {
        net();
        acts();
        text();
        looks();
        law();
        tying();
        holes();
        rest();
        Due.end("NumberBoundsTest");
    }

    /** A number from low to high, in a call that is refused as BAD by any other. */
    private static void bounds(String name, int low, int high, int answer, Call call) {
        for (int n : new int[] {low, low + 1, high - 1, high}) {
            NetLaw x = Twins.rich();
            int before = x.status(0);
            call.on(x, n);
            Due.due(name + ", " + n + " is not BAD", x.status(0), before);
        }
        for (int n : new int[] {low - 1, high + 1, Integer.MIN_VALUE, Integer.MAX_VALUE}) {
            bad(name + ", " + n, answer, x -> call.on(x, n));
        }
    }

    private static void bounds(String name, int low, int high, Call call) {
        bounds(name, low, high, NetLaw.BAD, call);
    }

    private static void bad(String name, int answer, ToLongFunction<NetLaw> call) {
        Twins.refused(name, Twins::rich, call, answer, Twins.AS_BAD);
    }

    private static void net() {
        Due.sentence("2, RAIN (1, 0 ..), TWINE (0 .. 99 ..)");
        bounds("net(n, 0)", 0, 1, (x, n) -> x.net(n, 0));
        bounds("net(0, n)", 0, 99, (x, n) -> x.net(0, n));
        Due.sentence("3, RAIN (1, 0 ..)");
        bounds("rain(n)", 0, 1, (x, n) -> x.rain(n));
        Due.sentence("4, TWINE (0 .. 99 ..)");
        bounds("twine(n)", 0, 99, (x, n) -> x.twine(n));
        Due.sentence("5, HANDS (bits, 0 .. 65535)");
        bounds("hands(n)", 0, 65535, (x, n) -> x.hands(n));
        Due.sentence("6, CLAUSES 0 .. 8");
        bounds("wide(n, 5)", 0, 8, (x, n) -> x.wide(n, 5));
        Due.sentence("6, each is WIDE (0 .. 30 ..)");
        bounds("wide(3, n)", 0, 30, (x, n) -> x.wide(3, n));
    }

    private static void acts() {
        Due.sentence("7, KNOTS 0 .. 15");
        bounds("tie(n, 1, 1, 1)", 0, 15, (x, n) -> x.tie(n, 1, 1, 1));
        Due.sentence("7, KINDS 0 .. 5");
        bounds("tie(2, n, 1, 1)", 0, 5, (x, n) -> x.tie(2, n, 1, 1));
        Due.sentence("7, STRENGTH 1 .. 9");
        bounds("tie(2, 1, n, 1)", 1, 9, (x, n) -> x.tie(2, 1, n, 1));
        Due.sentence("7, a VILLAGE (0 .. 2)");
        bounds("tie(2, 1, 1, n)", 0, 2, (x, n) -> x.tie(2, 1, 1, n));
        Due.sentence("8, A KNOT is mended by n (1 .. 9)");
        bounds("mend(n, 1)", 0, 15, (x, n) -> x.mend(n, 1));
        bounds("mend(0, n)", 1, 9, (x, n) -> x.mend(0, n));
        Due.sentence("9, KNOTS 0 .. 15");
        bounds("drop(n)", 0, 15, (x, n) -> x.drop(n));
    }

    private static void text() {
        Due.sentence("12, A byte (0 .. 127)");
        bounds("type(n)", 0, 127, (x, n) -> x.type(n));
    }

    private static void looks() {
        Due.sentence("15, KIND (0), .. what it would ROT in this NIGHT (4 ..)");
        bounds("of(n, 1)", 0, 15, (x, n) -> x.of(n, 1));
        bounds("of(1, n)", 0, 4, (x, n) -> x.of(1, n));
        Due.sentence("16, how WIDE it is (0), .. whether it is LAW (2 ..)");
        bounds("clause(n, 1)", 0, 8, (x, n) -> x.clause(n, 1));
        bounds("clause(1, n)", 0, 2, (x, n) -> x.clause(1, n));
    }

    private static void law() {
        Due.sentence("18, which (0), how many (1)");
        bounds("holdsAll(n)", 0, 1, (x, n) -> x.holdsAll(n));
        Due.sentence("19, CLAUSES 0 .. 8");
        bounds("dropped(n)", 0, 8, (x, n) -> x.dropped(n));
        Due.sentence("20, how much (k = NONE), what KNOT k gets. BAD: -10");
        bounds("least(n, 1, 1)", 0, 8, BY_TEN, (x, n) -> x.least(n, 1, 1));
        bounds("least(1, n, 1)", 0, 8, BY_TEN, (x, n) -> x.least(1, n, 1));
        bounds("least(0, 1, n)", -1, 15, BY_TEN, (x, n) -> x.least(0, 1, n));
        Due.sentence("21, the fewest CLAUSES (0), from which (1 ..)");
        bounds("fish(n)", 0, 1, (x, n) -> x.fish(n));
        Due.sentence("22, IMAGES 0, 1");
        bounds("precedent(n)", 0, 1, (x, n) -> x.precedent(n));
    }

    private static void tying() {
        Due.sentence("23, a KNOT of STRENGTH s (1 .. 9), in RAIN or not, HELD v (0 .. 30)");
        bounds("reading(n, 0, 1)", 1, 9, (x, n) -> x.reading(n, 0, 1));
        bounds("reading(1, n, 1)", 0, 1, (x, n) -> x.reading(1, n, 1));
        bounds("reading(1, 0, n)", 0, 30, (x, n) -> x.reading(1, 0, n));
        Due.sentence("28, two, each of one CLAUSE a, b .. by m (1 .. 9 ..). BAD: -10");
        // Clause 4 is none of the numbers that bounds() asks with, so that they are never alike.
        bounds("menders(n, 4, 1, 0)", 0, 8, BY_TEN, (x, n) -> x.menders(n, 4, 1, 0));
        bounds("menders(4, n, 1, 0)", 0, 8, BY_TEN, (x, n) -> x.menders(4, n, 1, 0));
        bounds("menders(0, 1, n, 0)", 1, 9, BY_TEN, (x, n) -> x.menders(0, 1, n, 0));
        bounds("menders(0, 1, 1, n)", 0, 1, BY_TEN, (x, n) -> x.menders(0, 1, 1, n));
        Due.sentence("28, BAD: -10: alike, too");
        for (int c = 0; c < 9; c++) {
            int clause = c;
            bad("menders(" + c + ", " + c + ", 1, 0)", BY_TEN, x -> x.menders(clause, clause, 1, 0));
            NetLaw x = Twins.rich();
            x.menders(c, (c + 1) % 9, 1, 0);
            x.menders((c + 1) % 9, c, 1, 0);
            Due.due("unlike ones beside " + c, x.status(0), 0);
        }
        Due.sentence("29, slips .. by c of 10 (0 .. 10)");
        bounds("odds(n, 5)", 0, 8, (x, n) -> x.odds(n, 5));
        bounds("odds(0, n)", 0, 10, (x, n) -> x.odds(0, n));
        Due.sentence("30, DRAWN by a SEED (0 .. 999999), m NIGHTS (0 .. 30)");
        bounds("drawn(n, 2)", 0, 999999, (x, n) -> x.drawn(n, 2));
        bounds("drawn(2, n)", 0, 30, (x, n) -> x.drawn(2, n));
    }

    private static void holes() {
        Due.sentence("27, STOOD: how many (0), the first (1 ..). BAD: -10");
        bounds("stood(n, 0, 0)", 0, 15, BY_TEN, (x, n) -> x.stood(n, 0, 0));
        bounds("stood(2, 0, n)", 0, 1, BY_TEN, (x, n) -> x.stood(2, 0, n));
        Due.sentence("27, BAD: -10: CLAUSES that have it not, too");
        for (int k = 0; k < 16; k++) {
            NetLaw x = new NetLaw();
            for (int clauses = 0; clauses < 512; clauses++) {
                if ((clauses & ~Nets.AROUND[k]) == 0) {
                    x.stood(k, clauses, 0);
                }
            }
            Due.due("CLAUSES that have " + k, x.status(0), 0);
            int knot = k;
            for (int c = 0; c < 9; c++) {
                int one = 1 << c;
                if ((one & Nets.AROUND[k]) == 0) {
                    Twins.refused("stood(" + k + ", " + one + ", 0)", NetLaw::new, y -> y.stood(knot, one, 0),
                            BY_TEN, Twins.AS_BAD);
                }
            }
            for (int clauses : new int[] {512, 65536, -1, Integer.MIN_VALUE, Integer.MAX_VALUE, Nets.AROUND[k] | 512}) {
                Twins.refused("stood(" + k + ", " + clauses + ", 0)", NetLaw::new, y -> y.stood(knot, clauses, 0),
                        BY_TEN, Twins.AS_BAD);
            }
        }
    }

    private static void rest() {
        Due.sentence("31, above (0), below (1)");
        bounds("part(n)", 0, 1, (x, n) -> x.part(n));
        Due.sentence("32, IMAGES 0, 1");
        bounds("image(n)", 0, 1, (x, n) -> x.image(n));
        Due.sentence("33, IMAGES 0, 1");
        bounds("from(n)", 0, 1, (x, n) -> x.from(n));
        Due.sentence("34, BAD (0), NO (1), FULL (2). -1: another what (counts as BAD)");
        bounds("status(n)", 0, 2, -1, (x, n) -> x.status(n));
        Due.sentence("35, How many: 0 KNOTS that are no HOLES, .. 7 bytes of THE TEXT");
        bounds("count(n)", 0, 7, (x, n) -> x.count(n));
    }
}
