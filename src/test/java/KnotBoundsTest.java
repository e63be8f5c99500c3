/** The bounds that 'Terms' names for knots, kinds, clauses, law, nights and what is undone. */
public final class KnotBoundsTest {
    private static final int REEF = 0, TARRED = 1, SHEET = 2, CORK = 3, LEAD = 4, SPLICE = 5;

    public static void main(String[] args) {
        atFirst();
        newNet();
        toldBack();
        tiedInPlace();
        aroundEachKnot();
        clauseOfEachCorner();
        holdsAtBounds();
        spliceByTheRight();
        spliceAtTheEnd();
        holeHoldsNothing();
        holeKeepsKind();
        lawAtItsWidth();
        widestLaw();
        rotsByNight();
        rotsNotBelowNothing();
        nightUnderHands();
        nightCountsHoles();
        nightThenOneMore();
        undoKeepsEight();
        undoOfEach();
        undoLeavesTheRest();
        undoLeftByTheRest();
        lastCallOfAll();
        Due.end("KnotBoundsTest");
    }

    private static void due(String what, long got, long want) {
        Due.due(what, got, want);
    }

    private static void atFirst() {
        Due.sentence("1, As told; HOLES all over");
        NetLaw x = new NetLaw();
        for (int k = 0; k < 16; k++) {
            for (int what = 0; what < 5; what++) {
                due("of(" + k + ", " + what + ")", x.of(k, what), 0);
            }
        }
        for (int c = 0; c < 9; c++) {
            due("WIDE 9 at first, clause " + c, x.clause(c, 0), 9);
            due("holds, clause " + c, x.clause(c, 1), 0);
            due("no law, clause " + c, x.clause(c, 2), 0);
        }
        for (int what = 0; what < 8; what++) {
            due("count(" + what + ")", x.count(what), 0);
        }
        due("above", x.part(0), 0);
        due("below", x.part(1), 1);
        Twins.dueAlike("a second object", new NetLaw(), new NetLaw());
    }

    private static void newNet() {
        Due.sentence("2, RAIN, TWINE, all else as at first");
        for (int rain = 0; rain <= 1; rain++) {
            for (int twine : new int[] {0, 1, 98, 99}) {
                NetLaw x = Twins.rich();
                due("net(" + rain + ", " + twine + ")", x.net(rain, twine), 4);
                due("RAIN", x.count(1), rain);
                due("TWINE", x.count(2), twine);
                for (int what : new int[] {0, 3, 4, 5, 6}) {
                    due("count(" + what + ")", x.count(what), 0);
                }
                for (int k = 0; k < 16; k++) {
                    due("KIND of " + k, x.of(k, 0), 0);
                    due("VILLAGE of " + k, x.of(k, 2), 0);
                }
                for (int c = 0; c < 9; c++) {
                    due("WIDE " + c, x.clause(c, 0), 9);
                }
                due("THE TEXT stays", x.count(7), 30);
                due("THE FRACTION stays", x.part(1) > 1 ? 1 : 0, 1);
                due("the IMAGE stays", x.from(0), 1);
            }
        }
        Due.sentence("2, how many KNOTS were no HOLES");
        NetLaw x = new NetLaw();
        for (int tied = 0; tied <= 16; tied++) {
            for (int k = 0; k < tied; k++) {
                x.tie(k, 0, 1, 0);
            }
            due(tied + " were tied", x.net(0, 0), tied);
        }
    }

    private static void toldBack() {
        Due.sentence("3, 4, 5, 6: what it was");
        NetLaw x = new NetLaw();
        int[][] rows = {{0, 1, 1, 0}, {0, 99, 98, 1, 0}, {0, 65535, 65534, 32768, 1, 0}, {9, 30, 29, 1, 0}};
        for (int i = 1; i < rows[0].length; i++) {
            due("rain " + rows[0][i], x.rain(rows[0][i]), rows[0][i - 1]);
            due("is so", x.count(1), rows[0][i]);
        }
        for (int i = 1; i < rows[1].length; i++) {
            due("twine " + rows[1][i], x.twine(rows[1][i]), rows[1][i - 1]);
            due("is so", x.count(2), rows[1][i]);
        }
        for (int i = 1; i < rows[2].length; i++) {
            due("hands " + rows[2][i], x.hands(rows[2][i]), rows[2][i - 1]);
            due("is so", x.count(3), rows[2][i]);
        }
        for (int c = 0; c < 9; c += 8) {
            for (int i = 1; i < rows[3].length; i++) {
                due("wide " + c + ", " + rows[3][i], x.wide(c, rows[3][i]), rows[3][i - 1]);
                due("is so", x.clause(c, 0), rows[3][i]);
                due("its neighbour stays", x.clause(c == 0 ? 1 : 7, 0), 9);
            }
        }
    }

    private static void tiedInPlace() {
        Due.sentence("7, A KNOT is tied (in place of what was there; STRENGTH 1 .. 9): the STRENGTH that was there");
        NetLaw x = new NetLaw();
        for (int k = 0; k < 16; k += 15) {
            due("a hole was there", x.tie(k, REEF, 1, 0), 0);
            due("1 was there", x.tie(k, SPLICE, 9, 2), 1);
            due("9 was there", x.tie(k, CORK, 9, 1), 9);
            due("KIND", x.of(k, 0), CORK);
            due("STRENGTH", x.of(k, 1), 9);
            due("VILLAGE", x.of(k, 2), 1);
            x.drop(k);
            due("a hole again", x.tie(k, SPLICE, 9, 2), 0);
            due("KIND 5", x.of(k, 0), SPLICE);
            due("VILLAGE 2", x.of(k, 2), 2);
        }
        due("no other", x.count(0), 2);
    }

    private static void aroundEachKnot() {
        Due.sentence("KNOT k in row k by 4 (cut), column k by 4 left over");
        for (int k = 0; k < 16; k++) {
            NetLaw x = new NetLaw();
            x.tie(k, REEF, 9, 0);
            due("laws by knot " + k, x.laws(), Nets.AROUND[k]);
            for (int c = 0; c < 9; c++) {
                int has = Nets.AROUND[k] >> c & 1;
                due("clause " + c + " by knot " + k, x.clause(c, 1), 9 * has);
                due("law " + c + " by knot " + k, x.clause(c, 2), has);
            }
        }
    }

    private static void clauseOfEachCorner() {
        Due.sentence("CLAUSE c lies between the four KNOTS of its corners");
        // Each corner has a strength of its own, so that one taken for another shows.
        int[][] corners = {{0, 1, 4, 5}, {2, 3, 6, 7}, {8, 9, 12, 13}, {10, 11, 14, 15}};
        int[] clauses = {0, 2, 6, 8};
        for (int i = 0; i < clauses.length; i++) {
            NetLaw x = new NetLaw();
            int[] strengths = {1, 2, 4, 9};
            for (int j = 0; j < 4; j++) {
                x.tie(corners[i][j], REEF, strengths[j], 0);
            }
            due("corner clause " + clauses[i], x.clause(clauses[i], 1), 16);
            due("the middle clause", x.clause(4, 1), strengths[3 - i]);
        }
    }

    private static void holdsAtBounds() {
        Due.sentence("KINDS .. say what a KNOT of STRENGTH s (above 0) HOLDS");
        int[] strengths = {1, 2, 8, 9};
        int[][] dry = {{1, 2, 8, 9}, {1, 2, 8, 9}, {2, 4, 16, 18}, {1, 1, 4, 5}, {5, 7, 19, 21}, {1, 2, 8, 9}};
        int[][] wet = {{0, 1, 7, 8}, {1, 2, 8, 9}, {0, 2, 14, 16}, {1, 1, 4, 5}, {0, 2, 14, 16}, {0, 1, 7, 8}};
        NetLaw x = new NetLaw();
        for (int k = 0; k < 16; k += 15) {
            for (int kind = REEF; kind <= SPLICE; kind++) {
                for (int i = 0; i < strengths.length; i++) {
                    x.tie(k, kind, strengths[i], 0);
                    x.rain(0);
                    due("kind " + kind + " of " + strengths[i] + " without RAIN", x.of(k, 3), dry[kind][i]);
                    x.rain(1);
                    due("kind " + kind + " of " + strengths[i] + " in RAIN", x.of(k, 3), wet[kind][i]);
                }
            }
        }
    }

    private static void spliceByTheRight() {
        Due.sentence("5 SPLICE .. half (cut) of the STRENGTH of the KNOT right of it");
        int[] more = {0, 0, 1, 1, 2, 2, 3, 3, 4, 4};
        NetLaw x = new NetLaw();
        x.tie(13, SPLICE, 1, 0);
        x.tie(12, REEF, 9, 0);
        x.tie(9, REEF, 9, 0);
        for (int s = 1; s <= 9; s++) {
            // A sheet holds twice as much: it is the STRENGTH that counts.
            x.tie(14, SHEET, s, 0);
            due("right of it " + s, x.of(13, 3), 1 + more[s]);
            x.rain(1);
            due("right of it " + s + ", in RAIN", x.of(13, 3), more[s]);
            x.rain(0);
        }
        x.drop(14);
        due("a hole right of it", x.of(13, 3), 1);
    }

    private static void spliceAtTheEnd() {
        Due.sentence("(in its row; there is none: 0)");
        NetLaw x = new NetLaw();
        for (int k = 0; k < 16; k++) {
            x.tie(k, SPLICE, 9, 0);
        }
        for (int k = 0; k < 16; k++) {
            due("splice " + k, x.of(k, 3), k % 4 == 3 ? 9 : 13);
        }
    }

    private static void holeHoldsNothing() {
        Due.sentence("A HOLE HOLDS 0");
        for (int kind = REEF; kind <= SPLICE; kind++) {
            NetLaw x = new NetLaw();
            x.tie(1, REEF, 9, 0);
            x.tie(0, kind, 9, 0);
            x.drop(0);
            due("kind " + kind + " without RAIN", x.of(0, 3), 0);
            x.rain(1);
            due("kind " + kind + " in RAIN", x.of(0, 3), 0);
            Due.sentence("15, what it would ROT in this NIGHT (4; a HOLE: 0)");
            for (int night = 0; night < 4; night++) {
                due("kind " + kind + " in NIGHT " + night, x.of(0, 4), 0);
                x.night();
            }
            Due.sentence("A HOLE HOLDS 0");
        }
    }

    private static void holeKeepsKind() {
        Due.sentence("(one that becomes a HOLE later keeps its KIND, its VILLAGE)");
        for (int kind = REEF; kind <= SPLICE; kind++) {
            NetLaw x = new NetLaw();
            x.tie(0, kind, 9, 1);
            x.tie(15, kind, 1, 2);
            x.drop(0);
            x.hands(1 << 15);
            x.night();
            x.night();
            due("dropped", x.of(0, 1), 0);
            due("its KIND", x.of(0, 0), kind);
            due("its VILLAGE", x.of(0, 2), 1);
            due("rotted", x.of(15, 1), 0);
            due("its KIND", x.of(15, 0), kind);
            due("its VILLAGE", x.of(15, 2), 2);
        }
    }

    private static void lawAtItsWidth() {
        Due.sentence("A CLAUSE is LAW, if its four KNOTS HOLD as much together as it is WIDE, or more");
        int[][] corners = {{0, 1, 4, 5}, {10, 11, 14, 15}};
        for (int i = 0; i < 2; i++) {
            NetLaw x = new NetLaw();
            int c = 8 * i;
            due("nothing held, WIDE 9", x.clause(c, 2), 0);
            x.wide(c, 1);
            due("nothing held, WIDE 1", x.clause(c, 2), 0);
            x.wide(c, 0);
            due("nothing held, WIDE 0", x.clause(c, 2), 1);
            for (int k : corners[i]) {
                x.tie(k, TARRED, 7, 0);
            }
            for (int wide = 0; wide <= 30; wide++) {
                x.wide(c, wide);
                due("28 held, WIDE " + wide, x.clause(c, 2), wide <= 28 ? 1 : 0);
                due("as a bit", x.laws() >> c & 1, wide <= 28 ? 1 : 0);
            }
        }
        Due.sentence("17, CLAUSES that are LAW, as bits");
        NetLaw x = new NetLaw();
        for (int c = 0; c < 9; c++) {
            x.wide(c, 0);
            due("0 to " + c, x.laws(), (1 << c + 1) - 1);
        }
        for (int c = 0; c < 9; c++) {
            x.wide(c, 1);
            due("behind " + c, x.laws(), 511 & ~((1 << c + 1) - 1));
        }
    }

    private static void widestLaw() {
        Due.sentence("each is WIDE (0 .. 30 ..)");
        NetLaw x = new NetLaw();
        for (int k : new int[] {0, 1, 4, 5}) {
            x.tie(k, LEAD, 9, 0);
        }
        x.wide(0, 30);
        due("four leads of 9", x.clause(0, 1), 84);
        due("are LAW", x.clause(0, 2), 1);
    }

    private static void rotsByNight() {
        Due.sentence("what it ROTS in NIGHT n");
        int[] tarred = {0, 1, 0, 1, 0, 1, 0};
        int[] lead = {2, 1, 1, 2, 1, 1, 2};
        for (int night = 0; night < 7; night++) {
            int[] want = {1, tarred[night], 2, tarred[night], lead[night], 1};
            for (int kind = REEF; kind <= SPLICE; kind++) {
                for (int strength : new int[] {1, 9}) {
                    NetLaw x = new NetLaw();
                    passNights(x, night);
                    x.tie(0, kind, strength, 0);
                    x.hands(1);
                    due("kind " + kind + " of " + strength + " in NIGHT " + night, x.of(0, 4), want[kind]);
                    x.night();
                    due("is left", x.of(0, 1), Math.max(0, strength - want[kind]));
                }
            }
        }
    }

    private static void passNights(NetLaw x, int nights) {
        for (int i = 0; i < nights; i++) {
            x.night();
        }
    }

    private static void rotsNotBelowNothing() {
        Due.sentence("has so much less STRENGTH as it ROTS (0 at least)");
        int[] left = {0, 0, 0, 1};
        for (int strength = 1; strength <= 3; strength++) {
            NetLaw x = new NetLaw();
            x.tie(0, SHEET, strength, 0);
            x.tie(1, LEAD, strength, 0);
            x.hands(3);
            due("holes from " + strength, x.night(), strength <= 2 ? 2 : 0);
            due("a sheet of " + strength, x.of(0, 1), left[strength]);
            due("a lead of " + strength, x.of(1, 1), left[strength]);
        }
    }

    private static void nightUnderHands() {
        Due.sentence("each KNOT that is under HANDS");
        for (int k = 0; k < 16; k++) {
            NetLaw x = new NetLaw();
            for (int i = 0; i < 16; i++) {
                x.tie(i, REEF, 9, 0);
            }
            x.hands(1 << k);
            x.night();
            x.hands(65535 & ~(1 << k));
            x.night();
            x.night();
            for (int i = 0; i < 16; i++) {
                due("hands but for " + k + ", knot " + i, x.of(i, 1), i == k ? 8 : 7);
            }
        }
        NetLaw x = new NetLaw();
        x.tie(0, SHEET, 1, 0);
        due("no hands", x.night(), 0);
        due("no rot", x.of(0, 1), 1);
        due("but a NIGHT", x.count(4), 1);
    }

    private static void nightCountsHoles() {
        Due.sentence("10, how many KNOTS became HOLES");
        for (int tied = 0; tied <= 16; tied++) {
            NetLaw x = new NetLaw();
            for (int k = 0; k < tied; k++) {
                x.tie(k, REEF, 1, 0);
            }
            x.hands(65535);
            due(tied + " reefs of 1", x.night(), tied);
            due("holes stay what they are", x.night(), 0);
        }
        NetLaw x = new NetLaw();
        x.tie(0, REEF, 2, 0);
        x.hands(1);
        due("a reef of 2", x.night(), 0);
        due("then of 1", x.night(), 1);
    }

    private static void nightThenOneMore() {
        Due.sentence("then the NIGHT is one more");
        NetLaw x = new NetLaw();
        x.tie(0, TARRED, 1, 0);
        x.hands(1);
        due("NIGHT 0 is not odd", x.night(), 0);
        due("now it is 1", x.count(4), 1);
        due("NIGHT 1 is odd", x.night(), 1);
        due("now it is 2", x.count(4), 2);
    }

    private static void undoKeepsEight() {
        Due.sentence("(8 at most ..)");
        for (int acts = 0; acts <= 12; acts++) {
            NetLaw x = new NetLaw();
            for (int i = 1; i <= acts; i++) {
                x.twine(i);
                x.tie(i - 1, i % 6, 9, i % 3);
            }
            int may = Math.min(8, acts);
            due(acts + " acts", x.count(6), may);
            for (int i = acts; i > acts - may; i--) {
                due("TWINE ahead of act " + i, x.undo(), i);
                due("one less may be undone", x.count(6), may - 1 - (acts - i));
                due("the knot is a hole again", x.of(i - 1, 1), 0);
                due("of KIND 0", x.of(i - 1, 0), 0);
                due("of VILLAGE 0", x.of(i - 1, 2), 0);
            }
            due("no more of " + acts, x.undo(), NetLaw.NO);
            due("what is left of " + acts, x.count(0), acts - may);
        }
    }

    private static void undoOfEach() {
        Due.sentence("UNDO: KNOTS, TWINE, the NIGHT as ahead of the last KNOT tied, mended, dropped, NIGHT");
        NetLaw x = new NetLaw();
        x.twine(50);
        x.tie(15, CORK, 4, 1);
        x.mend(15, 5);
        x.drop(15);
        x.tie(15, LEAD, 2, 2);
        x.hands(1 << 15);
        x.night();
        x.night();
        due("six acts", x.count(6), 6);
        int[][] ahead = {{LEAD, 0, 2, 1}, {LEAD, 2, 2, 0}, {CORK, 0, 1, 0}, {CORK, 9, 1, 0}, {CORK, 4, 1, 0}, {0, 0, 0, 0}};
        int[] twine = {45, 45, 45, 45, 50, 50};
        for (int i = 0; i < 6; i++) {
            due("undo " + i, x.undo(), twine[i]);
            due("TWINE", x.count(2), twine[i]);
            for (int what = 0; what < 3; what++) {
                due("of(15, " + what + ") behind undo " + i, x.of(15, what), ahead[i][what]);
            }
            due("NIGHT behind undo " + i, x.count(4), ahead[i][3]);
        }
    }

    private static void undoLeavesTheRest() {
        Due.sentence("UNDO: KNOTS, TWINE, the NIGHT ..");
        NetLaw x = new NetLaw();
        x.twine(5);
        x.tie(0, REEF, 3, 0);
        x.rain(1);
        x.twine(60);
        x.hands(65535);
        x.wide(8, 30);
        x.reading(1, 0, 1);
        x.type('n');
        x.odds(8, 0);
        x.image(0);
        due("TWINE as ahead", x.undo(), 5);
        due("RAIN stays", x.count(1), 1);
        due("HANDS stay", x.count(3), 65535);
        due("READINGS stay", x.count(5), 1);
        due("THE TEXT stays", x.count(7), 1);
        due("WIDTHS stay", x.clause(8, 0), 30);
        due("the IMAGE stays", x.from(0), 1);
        due("with its knot", x.of(0, 1), 3);
    }

    private static void undoLeftByTheRest() {
        Due.sentence("(.. what else is told leaves it)");
        NetLaw x = new NetLaw();
        x.tie(0, REEF, 3, 0);
        x.rain(1);
        x.twine(9);
        x.hands(1);
        x.wide(0, 1);
        x.reading(1, 0, 1);
        x.forget();
        x.type('n');
        x.read();
        x.clear();
        x.odds(0, 5);
        x.drawn(1, 30);
        x.image(0);
        x.tie(0, 6, 3, 0);
        x.mend(0, 9);
        x.drop(1);
        due("one may be undone still", x.count(6), 1);
        due("it is", x.undo(), 0);
        due("a hole again", x.of(0, 1), 0);
        due("none may be", x.count(6), 0);
    }

    private static void lastCallOfAll() {
        Due.sentence("An object is used for at most 512 calls after it has been made");
        NetLaw nights = new NetLaw();
        nights.tie(0, TARRED, 9, 0);
        nights.hands(1);
        passNights(nights, 508);
        due("the 511th", nights.of(0, 1), 0);
        due("the 512th", nights.count(4), 508);
        NetLaw bad = new NetLaw();
        for (int i = 0; i < 511; i++) {
            bad.rain(2);
        }
        due("511 were BAD", bad.status(0), 511);
        NetLaw ties = new NetLaw();
        for (int i = 0; i < 511; i++) {
            ties.tie(i % 16, i % 6, 1 + i % 9, i % 3);
        }
        due("8 at most behind 511", ties.count(6), 8);
    }
}
