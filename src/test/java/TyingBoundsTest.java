import java.math.BigInteger;

/** The bounds of READINGS, MAY, TRY, STOOD, MENDERS, ODDS, DRAWN and THE FRACTION. */
public final class TyingBoundsTest {
    private static final int REEF = 0, TARRED = 1, SHEET = 2, CORK = 3, LEAD = 4, SPLICE = 5;
    private static final int NONE_MENDS = 16, NEITHER = 17 * NONE_MENDS + NONE_MENDS;

    public static void main(String[] args) {
        readingsUpToSix();
        forgetNoneAndAll();
        mayByNoReading();
        mayAtTheBounds();
        mayByAllReadings();
        mayIsFreeOfTheNet();
        triesOfNoKind();
        triesOfLikeOnes();
        stoodByAllAndNone();
        stoodFirstAndLast();
        stoodByJustThese();
        stoodBesideASplice();
        mendersOfHoles();
        mendersUpToNine();
        mendersOfTheSameKnot();
        mendersByOneAndNine();
        mendersWithoutRest();
        mendersOfLikeKnots();
        mendersAtTheCorners();
        oddsOfNothingAndAll();
        oddsOfSixAndFour();
        oddsOfHoles();
        fractionInLowestTerms();
        fractionStays();
        drawnNoNight();
        drawnByHands();
        drawnGoesOnFromTheNight();
        Due.end("TyingBoundsTest");
    }

    private static void due(String what, long got, long want) {
        Due.due(what, got, want);
    }

    private static void readingsUpToSix() {
        Due.sentence("READINGS 0 .. 5, as they come");
        NetLaw x = new NetLaw();
        for (int i = 1; i <= 6; i++) {
            due("the reading " + i, x.reading(i, i % 2, i), i);
            due("how many", x.count(5), i);
        }
        due("no seventh", x.reading(1, 0, 1), NetLaw.FULL);
        due("how many", x.count(5), 6);
        NetLaw other = new NetLaw();
        for (int i = 6; i >= 1; i--) {
            other.reading(i, i % 2, i);
        }
        due("another order is another digest", x.digest() == other.digest() ? 1 : 0, 0);
    }

    private static void forgetNoneAndAll() {
        Due.sentence("24, No READINGS: how many there were");
        NetLaw x = new NetLaw();
        long atFirst = x.digest();
        due("none", x.forget(), 0);
        for (int many = 1; many <= 6; many++) {
            for (int i = 0; i < many; i++) {
                x.reading(1, 0, 2);
            }
            due("of " + many, x.may(), 1 << SHEET);
            due("were " + many, x.forget(), many);
            due("none are left", x.count(5), 0);
            due("as at first", x.digest(), atFirst);
            due("all KINDS again", x.may(), 63);
        }
    }

    private static void mayByNoReading() {
        Due.sentence("KINDS (bits) that it MAY be .. by all READINGS");
        NetLaw x = new NetLaw();
        due("no READING", x.may(), 63);
        due("no READING, TRY", x.tries(), 14);
    }

    private static int mayBy(int... readings) {
        return Nets.withReadings(readings).may();
    }

    private static void mayAtTheBounds() {
        Due.sentence("a KNOT of STRENGTH s (1 .. 9), in RAIN or not, HELD v (0 .. 30)");
        int reefs = 1 << REEF | 1 << SPLICE;
        int[][] rows = {
            {1, 0, 0, 0}, {1, 0, 1, reefs | 1 << TARRED | 1 << CORK}, {1, 0, 2, 1 << SHEET}, {1, 0, 3, 0},
            {1, 0, 5, 1 << LEAD}, {1, 0, 6, 0}, {1, 1, 0, reefs | 1 << SHEET | 1 << LEAD},
            {1, 1, 1, 1 << TARRED | 1 << CORK}, {1, 1, 2, 0}, {9, 0, 5, 1 << CORK}, {9, 0, 4, 0},
            {9, 0, 8, 0}, {9, 0, 9, reefs | 1 << TARRED}, {9, 0, 10, 0}, {9, 0, 18, 1 << SHEET}, {9, 0, 20, 0},
            {9, 0, 21, 1 << LEAD}, {9, 0, 22, 0}, {9, 0, 30, 0}, {9, 1, 5, 1 << CORK}, {9, 1, 8, reefs},
            {9, 1, 9, 1 << TARRED}, {9, 1, 16, 1 << SHEET | 1 << LEAD}, {9, 1, 17, 0}, {9, 1, 21, 0}, {9, 1, 30, 0},
        };
        for (int[] row : rows) {
            due(row[0] + " in RAIN " + row[1] + " HELD " + row[2], mayBy(row[0], row[1], row[2]), row[3]);
        }
    }

    private static void mayByAllReadings() {
        Due.sentence("KINDS (bits) that it MAY be (the same KNOT all along ..) by all READINGS");
        due("five that fit", mayBy(1, 0, 1, 2, 0, 2, 3, 0, 3, 4, 0, 4, 5, 0, 5), 1 << REEF | 1 << TARRED | 1 << SPLICE);
        due("the sixth tells", mayBy(1, 0, 1, 2, 0, 2, 3, 0, 3, 4, 0, 4, 5, 0, 5, 6, 1, 6), 1 << TARRED);
        due("the sixth rules out all", mayBy(1, 0, 1, 2, 0, 2, 3, 0, 3, 4, 0, 4, 5, 0, 5, 6, 1, 7), 0);
        due("the first tells", mayBy(9, 0, 21, 1, 1, 0, 1, 1, 0, 1, 1, 0, 1, 1, 0, 1, 1, 0), 1 << LEAD);
        due("two that speak against each other", mayBy(9, 0, 21, 9, 0, 18), 0);
    }

    private static void mayIsFreeOfTheNet() {
        Due.sentence("MAY be (.. a HOLE right of it)");
        NetLaw x = new NetLaw();
        for (int k = 0; k < 16; k++) {
            x.tie(k, SPLICE, 9, 0);
        }
        x.rain(1);
        x.reading(9, 0, 9);
        due("a splice as a reef", x.may(), 1 << REEF | 1 << TARRED | 1 << SPLICE);
        x.reading(9, 1, 8);
        due("by the READING's RAIN", x.may(), 1 << REEF | 1 << SPLICE);
    }

    private static int tryBy(int... readings) {
        return Nets.withReadings(readings).tries();
    }

    private static void triesOfNoKind() {
        Due.sentence("TRY ..: none: no KIND");
        due("HELD 30", tryBy(1, 0, 30), NetLaw.NONE);
        due("two that speak against each other", tryBy(1, 0, 1, 1, 0, 2), NetLaw.NONE);
        due("one KIND is left", tryBy(1, 0, 2), 1);
        due("no READING", tryBy(), 14);
    }

    private static void triesOfLikeOnes() {
        Due.sentence("TRY: s in RAIN (10 and s) or not (s) by which the most .. are fewest; of like ones the least number");
        due("reef, splice: nothing tells", tryBy(9, 1, 8), 1);
        due("sheet, lead: any without RAIN", tryBy(9, 1, 16), 1);
        due("tarred, cork: 2 on", tryBy(1, 1, 1), 2);
        due("reef, tarred, splice: any in RAIN", tryBy(9, 0, 9), 11);
        due("reef, tarred, cork, splice", tryBy(1, 0, 1), 11);
        due("reef, cork, splice: 2 on", tryBy(1, 0, 1, 2, 1, 1), 2);
        due("tarred, sheet, lead: all apart by 1", tryBy(2, 1, 2), 1);
        due("reef, sheet, lead, splice", tryBy(1, 1, 0), 1);
    }

    private static void dueStood(String what, NetLaw x, int knot, int clauses, int howMany, int first) {
        due(what + ", how many", x.stood(knot, clauses, 0), howMany);
        due(what + ", the first", x.stood(knot, clauses, 1), first);
    }

    private static void stoodByAllAndNone() {
        Due.sentence("STOOD ..: how many; the first (.. none)");
        for (int k = 0; k < 16; k++) {
            NetLaw x = new NetLaw();
            Nets.wideAll(x, 0);
            dueStood("WIDE 0, all LAW, knot " + k, x, k, Nets.AROUND[k], 54, 1);
            dueStood("WIDE 0, none LAW, knot " + k, x, k, 0, 0, NetLaw.NONE);
            Nets.wideAll(x, 22);
            dueStood("WIDE 22, none LAW, knot " + k, x, k, 0, 54, 1);
            dueStood("WIDE 22, all LAW, knot " + k, x, k, Nets.AROUND[k], 0, NetLaw.NONE);
            Nets.wideAll(x, 21);
            dueStood("WIDE 21, all LAW, knot " + k, x, k, Nets.AROUND[k], 1, 49);
            dueStood("WIDE 21, none LAW, knot " + k, x, k, 0, 53, 1);
        }
    }

    private static void stoodFirstAndLast() {
        Due.sentence("STOOD ..: the first (10 times the KIND and the STRENGTH ..)");
        NetLaw x = new NetLaw();
        x.wide(0, 1);
        dueStood("any", x, 0, 1, 54, 1);
        x.wide(0, 2);
        // But for reef 1, tarred 1, cork 1 and 2, splice 1.
        dueStood("2 on", x, 0, 1, 49, 2);
        x.wide(0, 10);
        dueStood("no reef, no tarred one", x, 0, 1, 5 + 6, 25);
        x.wide(0, 19);
        dueStood("leads of 8, 9", x, 0, 1, 2, 48);
        // In rain, with 6 right of it, only a splice of 9 holds just 11: 12 were too much for clause 1.
        NetLaw y = new NetLaw();
        y.rain(1);
        y.tie(2, REEF, 6, 0);
        y.wide(0, 11);
        y.wide(1, 17);
        dueStood("the last pair alone", y, 1, 1, 1, 59);
        y.tie(2, REEF, 5, 0);
        y.wide(1, 16);
        dueStood("nothing holds 11", y, 1, 1, 0, NetLaw.NONE);
    }

    private static void stoodByJustThese() {
        Due.sentence("STOOD ..: just CLAUSES told (bits) of those that have it at a corner are LAW");
        NetLaw x = new NetLaw();
        x.wide(0, 3);
        x.wide(1, 5);
        x.wide(3, 7);
        x.wide(4, 9);
        x.wide(8, 0);
        // Reef, tarred one and splice hold s, a sheet 2 s, a cork 1 1 2 2 3 3 4 4 5, a lead 2 s and 3.
        dueStood("none", x, 5, 0, 2 + 2 + 1 + 4 + 0 + 2, 1);
        dueStood("clause 0", x, 5, 1, 2 + 2 + 1 + 4 + 0 + 2, 3);
        dueStood("clauses 0, 1", x, 5, 3, 2 + 2 + 1 + 1 + 1 + 2, 5);
        dueStood("clauses 0, 1, 3", x, 5, 11, 2 + 2 + 1 + 0 + 1 + 2, 7);
        dueStood("all four", x, 5, 27, 1 + 1 + 5 + 0 + 7 + 1, 9);
        dueStood("clause 1 alone", x, 5, 2, 0, NetLaw.NONE);
        Due.sentence("STOOD in a HOLE: .. tied there (all else as now)");
        x.tie(0, TARRED, 3, 0);
        dueStood("clause 0 is LAW without it", x, 5, 1, 4 + 4 + 2 + 8 + 0 + 4, 1);
        dueStood("none", x, 5, 0, 0, NetLaw.NONE);
    }

    private static void stoodBesideASplice() {
        Due.sentence("STOOD in a HOLE: .. (all else as now)");
        NetLaw x = new NetLaw();
        x.tie(0, SPLICE, 1, 0);
        x.wide(0, 9);
        x.wide(1, 30);
        // With a reef of s, clause 0 holds s, 1 and half of s: 5 (8) is too little, 6 (10) is enough.
        due("the first", x.stood(1, 1, 1), 6);
        Due.sentence("5 SPLICE .. (in its row; there is none: 0)");
        NetLaw y = new NetLaw();
        y.rain(1);
        y.tie(4, REEF, 9, 0);
        y.wide(2, 9);
        // Tarred 9, sheets and leads of 6 on: a splice in the last column holds 8 at most.
        dueStood("the last column", y, 3, 4, 1 + 4 + 4, 19);
    }

    private static void dueMenders(String what, NetLaw x, int a, int b, int m, int howMany, int first) {
        due(what + ", how many", x.menders(a, b, m, 0), howMany);
        due(what + ", the first", x.menders(a, b, m, 1), first);
    }

    private static void mendersOfHoles() {
        Due.sentence("MENDERS: .. each mends a KNOT (no HOLE) .. or none");
        NetLaw x = new NetLaw();
        for (int m : new int[] {1, 2, 8, 9}) {
            dueMenders("a new net, by " + m, x, 0, 8, m, 1, NEITHER);
        }
        Nets.wideAll(x, 0);
        dueMenders("all LAW", x, 0, 8, 1, 1, NEITHER);
        x.wide(0, 9);
        x.tie(0, REEF, 5, 0);
        x.drop(0);
        dueMenders("one that was dropped", x, 0, 8, 9, 1, NEITHER);
        x.undo();
        dueMenders("one that is there", x, 0, 8, 9, 1, NONE_MENDS);
    }

    private static void mendersUpToNine() {
        Due.sentence("MENDERS: .. (.. it has 9 then at most ..)");
        NetLaw x = new NetLaw();
        for (int s = 1; s <= 8; s++) {
            x.tie(0, REEF, s, 0);
            x.wide(0, 9);
            dueMenders("from " + s + " by 9 it has 9", x, 0, 8, 9, 1, NONE_MENDS);
            dueMenders("from " + s + " just to 9", x, 0, 8, 9 - s, 1, NONE_MENDS);
            if (s < 8) {
                dueMenders("from " + s + " just to 8", x, 0, 8, 8 - s, 1, NEITHER);
            }
            x.wide(0, 10);
            dueMenders("from " + s + " not to 10", x, 0, 8, 9, 1, NEITHER);
        }
        x.tie(0, REEF, 9, 0);
        dueMenders("9 stays 9", x, 0, 8, 1, 1, NEITHER);
    }

    private static void mendersOfTheSameKnot() {
        Due.sentence("MENDERS: .. (.. both the same one: by twice m)");
        NetLaw x = new NetLaw();
        x.tie(5, REEF, 1, 0);
        dueMenders("1 and twice 3 are 7", x, 0, 4, 3, 1, NEITHER);
        dueMenders("1 and twice 4 are 9", x, 0, 4, 4, 2, 17 * 5 + 5);
        dueMenders("1 and twice 5 are 9 at most", x, 0, 4, 5, 2, 17 * 5 + 5);
        x.wide(0, 10);
        dueMenders("9 at most is no 10", x, 0, 4, 5, 1, NEITHER);
        x.wide(0, 9);
        // By 8 one alone does it for both.
        dueMenders("1 and 8 are 9", x, 0, 4, 8, 2, 17 * 5 + NONE_MENDS);
    }

    private static void mendersByOneAndNine() {
        Due.sentence("MENDERS: .. each gets 10, if the own CLAUSE is LAW then, less m, if one mended");
        NetLaw x = new NetLaw();
        x.tie(0, REEF, 8, 0);
        x.tie(15, SHEET, 4, 0);
        dueMenders("each by 1: 9 are more than 0", x, 0, 8, 1, 1, 17 * 0 + 15);
        dueMenders("each by 9: 1 is more than 0", x, 0, 8, 9, 1, 17 * 0 + 15);
        x.wide(8, 8);
        dueMenders("what is LAW is not mended", x, 0, 8, 1, 1, NONE_MENDS);
        x.wide(0, 8);
        dueMenders("neither is", x, 0, 8, 1, 1, NEITHER);
    }

    private static void mendersWithoutRest() {
        Due.sentence("MENDERS: .. pairs .. that rest ..: how many; the first (.. none)");
        NetLaw x = new NetLaw();
        x.tie(1, REEF, 1, 0);
        x.wide(0, 3);
        x.wide(1, 5);
        // The one mends unless the other does; the other mends only if the one does.
        dueMenders("nothing rests", x, 0, 1, 2, 0, NetLaw.NONE);
        dueMenders("the other way", x, 1, 0, 2, 0, NetLaw.NONE);
        x.wide(1, 6);
        dueMenders("a little wider, it rests", x, 0, 1, 2, 1, 17 * 1 + NONE_MENDS);
    }

    private static void mendersOfLikeKnots() {
        Due.sentence("MENDERS: .. (neither would get more by another KNOT, or none)");
        NetLaw x = new NetLaw();
        Nets.tieAll(x, TARRED, 2, 0, 1, 4, 5, 10, 11, 14, 15);
        dueMenders("any of four and any of four", x, 0, 8, 1, 16, 17 * 0 + 10);
        x.wide(0, 8);
        dueMenders("any of four", x, 0, 8, 1, 4, 17 * NONE_MENDS + 10);
        x.wide(8, 8);
        dueMenders("none", x, 0, 8, 1, 1, NEITHER);
        x.wide(8, 9);
        dueMenders("the other way", x, 8, 0, 1, 4, 17 * 10 + NONE_MENDS);
        x.wide(8, 10);
        x.tie(14, SHEET, 1, 0);
        // 8 held, 10 wanted: one more of the sheet alone.
        dueMenders("just one of them", x, 0, 8, 1, 1, 17 * NONE_MENDS + 14);
    }

    private static void mendersAtTheCorners() {
        Due.sentence("MENDERS: .. each mends a KNOT (no HOLE) at a corner of the own one");
        NetLaw x = new NetLaw();
        x.tie(1, SPLICE, 8, 0);
        x.tie(2, REEF, 1, 0);
        x.wide(8, 0);
        // Knot 2 would lift the splice, but it is no corner of clause 0.
        dueMenders("what is right of a corner", x, 0, 8, 1, 1, 17 * 1 + NONE_MENDS);
        x.tie(1, SPLICE, 9, 0);
        x.tie(2, REEF, 2, 0);
        x.wide(0, 11);
        dueMenders("nothing of its own would do", x, 0, 8, 2, 1, NEITHER);
        x.wide(2, 4);
        dueMenders("the other's knot does it", x, 0, 2, 2, 1, 17 * NONE_MENDS + 2);
    }

    private static void dueOdds(String what, NetLaw x, int clause, int c, long above, long below) {
        due(what, x.odds(clause, c), 1);
        due(what + ", above", x.part(0), above);
        due(what + ", below", x.part(1), below);
    }

    private static void oddsOfNothingAndAll() {
        Due.sentence("ODDS: .. slips .. by c of 10 (0 .. 10)");
        NetLaw x = new NetLaw();
        x.tie(15, TARRED, 9, 0);
        dueOdds("0 of 10", x, 8, 0, 1, 1);
        dueOdds("1 of 10", x, 8, 1, 9, 10);
        dueOdds("9 of 10", x, 8, 9, 1, 10);
        dueOdds("10 of 10", x, 8, 10, 0, 1);
        x.wide(8, 10);
        dueOdds("9 of WIDE 10, 0 of 10", x, 8, 0, 0, 1);
        dueOdds("9 of WIDE 10, 5 of 10", x, 8, 5, 0, 1);
        x.wide(8, 0);
        dueOdds("WIDE 0, 0 of 10", x, 8, 0, 1, 1);
        dueOdds("WIDE 0, 5 of 10", x, 8, 5, 1, 1);
        dueOdds("WIDE 0, 10 of 10", x, 8, 10, 1, 1);
    }

    private static void oddsOfSixAndFour() {
        Due.sentence("ODDS: each KNOT of a CLAUSE, and each right of one of these, slips .. apart");
        NetLaw x = new NetLaw();
        x.tie(0, REEF, 9, 0);
        x.tie(4, REEF, 9, 0);
        x.tie(1, SPLICE, 3, 0);
        x.tie(5, SPLICE, 3, 0);
        x.tie(2, REEF, 2, 0);
        x.tie(6, REEF, 2, 0);
        x.wide(0, 26);
        dueOdds("all six must stay, 1 of 10", x, 0, 1, 531441, 1000000);
        dueOdds("all six must stay, 9 of 10", x, 0, 9, 1, 1000000);
        dueOdds("all six must stay, 5 of 10", x, 0, 5, 1, 64);
        x.wide(0, 25);
        // One of the two right ones may slip, and no other.
        dueOdds("one of two may slip, 5 of 10", x, 0, 5, 3, 64);
        NetLaw y = new NetLaw();
        Nets.tieAll(y, TARRED, 2, 2, 6);
        y.tie(4, TARRED, 9, 0);
        y.tie(8, TARRED, 9, 0);
        y.tie(3, SPLICE, 2, 0);
        y.tie(7, SPLICE, 2, 0);
        y.wide(2, 8);
        dueOdds("all four must stay", y, 2, 1, 6561, 10000);
        y.wide(2, 9);
        dueOdds("nothing is right of the last column", y, 2, 0, 0, 1);
        y.wide(2, 1);
        dueOdds("one of four is enough", y, 2, 1, 9999, 10000);
        Due.sentence("ODDS: .. slips (is a HOLE then)");
        NetLaw z = new NetLaw();
        z.tie(0, SPLICE, 1, 0);
        z.tie(1, TARRED, 8, 0);
        z.wide(0, 5);
        // The one right of it alone holds 8; the splice alone 1, for its right one is a hole then.
        dueOdds("a splice by a hole", z, 0, 5, 1, 2);
    }

    private static void oddsOfHoles() {
        Due.sentence("29, ODDS is THE FRACTION: 1");
        NetLaw x = new NetLaw();
        dueOdds("holes, 0 of 10", x, 0, 0, 0, 1);
        dueOdds("holes, 5 of 10", x, 0, 5, 0, 1);
        x.wide(0, 0);
        dueOdds("holes, WIDE 0", x, 0, 5, 1, 1);
    }

    private static void fractionInLowestTerms() {
        Due.sentence("THE FRACTION is 0 by 1 at first; lowest terms, below above 0");
        NetLaw x = new NetLaw();
        due("above at first", x.part(0), 0);
        due("below at first", x.part(1), 1);
        x.tie(0, TARRED, 9, 0);
        long[][] want = {{1, 1}, {9, 10}, {4, 5}, {7, 10}, {3, 5}, {1, 2}, {2, 5}, {3, 10}, {1, 5}, {1, 10}, {0, 1}};
        for (int c = 0; c <= 10; c++) {
            dueOdds(c + " of 10", x, 0, c, want[c][0], want[c][1]);
        }
    }

    private static void fractionStays() {
        Due.sentence("THE FRACTION: (above (0), below (1)) as ODDS left it");
        NetLaw x = Twins.rich();
        x.tie(15, TARRED, 9, 0);
        x.wide(8, 9);
        x.odds(8, 3);
        x.odds(9, 5);
        x.odds(8, 11);
        x.net(0, 0);
        x.read();
        x.from(0);
        x.undo();
        due("above", x.part(0), 7);
        due("below", x.part(1), 10);
        due("part 2", x.part(2), NetLaw.BAD);
    }

    private static NetLaw netOfKinds(int rain) {
        NetLaw x = new NetLaw();
        x.rain(rain);
        for (int k = 0; k < 16; k++) {
            x.tie(k, (k + k / 4) % 6, 9 - k % 3, k % 3);
        }
        for (int c = 0; c < 9; c++) {
            x.wide(c, 4 + 2 * c);
        }
        return x;
    }

    private static void drawnNoNight() {
        Due.sentence("DRAWN by a SEED (0 .. 999999), m NIGHTS (0 .. 30)");
        NetLaw x = netOfKinds(0);
        x.hands(65535);
        int now = Integer.bitCount(x.laws());
        due("no NIGHT, SEED 0", x.drawn(0, 0), now);
        due("no NIGHT, SEED 999999", x.drawn(999999, 0), now);
        // X is 12345: by 32768 it is 0, so that no hands are drawn in the first NIGHT.
        due("one NIGHT, SEED 0", x.drawn(0, 1), now);
    }

    /** The same nights by hands and night, with X in numbers that have no bound. */
    private static int nightsByHand(NetLaw x, int seed, int m) {
        BigInteger drawn = BigInteger.valueOf(seed);
        for (int i = 0; i < m; i++) {
            drawn = drawn.multiply(BigInteger.valueOf(1103515245)).add(BigInteger.valueOf(12345))
                    .mod(BigInteger.valueOf(2147483648L));
            x.hands(drawn.divide(BigInteger.valueOf(32768)).mod(BigInteger.valueOf(65536)).intValueExact());
            x.night();
        }
        return Integer.bitCount(x.laws());
    }

    private static void drawnByHands() {
        Due.sentence("DRAWN ..: ahead of each NIGHT X becomes X times 1103515245 and 12345, by 2147483648 what is left over");
        for (int rain = 0; rain <= 1; rain++) {
            for (int seed : new int[] {0, 1, 2, 65536, 500000, 999998, 999999}) {
                for (int m : new int[] {0, 1, 2, 3, 5, 8, 13, 29, 30}) {
                    NetLaw x = netOfKinds(rain);
                    int drawn = x.drawn(seed, m);
                    due("SEED " + seed + ", " + m + " NIGHTS, RAIN " + rain, drawn, nightsByHand(x, seed, m));
                }
            }
        }
    }

    private static void drawnGoesOnFromTheNight() {
        Due.sentence("DRAWN ..: (RAIN as now), NIGHTS from the NIGHT that it is");
        for (int nights = 0; nights < 6; nights++) {
            for (int m : new int[] {1, 2, 3, 4, 6, 9}) {
                NetLaw x = netOfKinds(nights % 2);
                for (int i = 0; i < nights; i++) {
                    x.night();
                }
                int drawn = x.drawn(4711, m);
                due(m + " NIGHTS from NIGHT " + nights, drawn, nightsByHand(x, 4711, m));
            }
        }
        Due.sentence("DRAWN ..: RAIN as now");
        NetLaw x = new NetLaw();
        x.tie(5, REEF, 9, 0);
        due("without RAIN", x.drawn(0, 1), 4);
        x.rain(1);
        due("in RAIN", x.drawn(0, 1), 0);
    }
}
