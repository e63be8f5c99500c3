/** The bounds of HOLDS ALL, DROP, LEAST TWINE, FISH and PRECEDENT. */
public final class LawBoundsTest {
    private static final int REEF = 0, TARRED = 1, SHEET = 2, CORK = 3, LEAD = 4, SPLICE = 5;
    private static final int HOW_MUCH = NetLaw.NONE, NO_MENDING = -5;

    public static void main(String[] args) {
        holdsAllOfHoles();
        holdsAllOfOne();
        holdsAllOfSix();
        holdsAllOfLikeOnes();
        holdsAllOfLawNow();
        dropOfNoLaw();
        dropOfWideNothing();
        dropOfOneToFour();
        dropOfLikeOnes();
        dropOfSplices();
        leastOfHoles();
        leastUpToNine();
        leastOfMuch();
        leastOfAlike();
        leastOfSplices();
        leastOfLikeOnes();
        leastByTwineThatIsThere();
        leastOfTwoThatShare();
        leastOfNoneShared();
        leastOfOneShared();
        leastOfTwoShared();
        leastOneBehindAnother();
        fishByLaw();
        precedentAtItsWidth();
        precedentOfWhatIsKept();
        Due.end("LawBoundsTest");
    }

    private static void due(String what, long got, long want) {
        Due.due(what, got, want);
    }

    private static void dueHoldsAll(String what, NetLaw x, int which, int howMany) {
        due(what + ", which", x.holdsAll(0), which);
        due(what + ", how many", x.holdsAll(1), howMany);
    }

    private static void holdsAllOfHoles() {
        Due.sentence("HOLDS ALL: .. none: all are HOLES");
        NetLaw x = new NetLaw();
        dueHoldsAll("a new net", x, NetLaw.NONE, NetLaw.NONE);
        Nets.wideAll(x, 0);
        dueHoldsAll("all LAW by WIDE 0", x, NetLaw.NONE, NetLaw.NONE);
        x.tie(7, LEAD, 9, 0);
        x.drop(7);
        dueHoldsAll("one that was dropped", x, NetLaw.NONE, NetLaw.NONE);
        x.undo();
        dueHoldsAll("one that is there", x, 7, 0);
    }

    private static void holdsAllOfOne() {
        Due.sentence("HOLDS ALL: the KNOT (no HOLE) that, dropped, leaves the most CLAUSES no LAW");
        int[] clauses = {1, 2, 2, 1, 2, 4, 4, 2, 2, 4, 4, 2, 1, 2, 2, 1};
        for (int k = 0; k < 16; k++) {
            NetLaw x = new NetLaw();
            x.tie(k, REEF, 8, 0);
            dueHoldsAll("knot " + k + " that holds no LAW", x, k, 0);
            x.tie(k, REEF, 9, 0);
            dueHoldsAll("knot " + k + " that holds all there is", x, k, clauses[k]);
            Nets.wideAll(x, 0);
            dueHoldsAll("knot " + k + " that none hangs on", x, k, 0);
            Nets.wideAll(x, 1);
            x.tie(k, REEF, 1, 0);
            dueHoldsAll("knot " + k + " of 1, WIDE 1", x, k, clauses[k]);
        }
    }

    private static void holdsAllOfSix() {
        Due.sentence("HOLDS ALL: .. how many");
        NetLaw x = new NetLaw();
        x.tie(5, SPLICE, 5, 0);
        x.tie(6, REEF, 8, 0);
        x.wide(1, 17);
        x.wide(2, 8);
        x.wide(4, 17);
        x.wide(5, 8);
        due("six are LAW", x.laws(), 63);
        dueHoldsAll("the one right of a splice", x, 6, 6);
    }

    private static void holdsAllOfLikeOnes() {
        Due.sentence("HOLDS ALL: .. of like ones the first");
        NetLaw x = new NetLaw();
        x.tie(15, REEF, 9, 0);
        x.tie(12, REEF, 9, 0);
        dueHoldsAll("12 and 15, a clause each", x, 12, 1);
        x.tie(3, REEF, 9, 0);
        dueHoldsAll("3 is ahead", x, 3, 1);
        x.tie(0, REEF, 9, 0);
        dueHoldsAll("0 is ahead", x, 0, 1);
        x.tie(14, REEF, 9, 0);
        dueHoldsAll("14 leaves clause 8 to 15", x, 0, 1);
        x.drop(15);
        dueHoldsAll("14 holds two", x, 14, 2);
    }

    private static void holdsAllOfLawNow() {
        Due.sentence("HOLDS ALL: .. that are LAW now");
        NetLaw x = new NetLaw();
        x.tie(0, REEF, 9, 0);
        x.tie(6, REEF, 8, 0);
        // Knot 6 has four clauses, but none of them is law: 0 has one that is.
        dueHoldsAll("four that are no LAW count for none", x, 0, 1);
    }

    private static void dropOfNoLaw() {
        Due.sentence("DROP for a CLAUSE that is LAW: .. none: it is no LAW");
        int[][] corners = {{0, 1, 4, 5}, {10, 11, 14, 15}};
        for (int i = 0; i < 2; i++) {
            int c = 8 * i;
            NetLaw x = new NetLaw();
            due("holes", x.dropped(c), NetLaw.NONE);
            x.tie(corners[i][3], TARRED, 8, 0);
            due("8 of 9", x.dropped(c), NetLaw.NONE);
            x.tie(corners[i][3], TARRED, 9, 0);
            due("9 of 9", x.dropped(c), 1 << corners[i][3]);
            x.wide(c, 10);
            due("9 of 10", x.dropped(c), NetLaw.NONE);
            x.wide(c, 8);
            due("9 of 8", x.dropped(c), 1 << corners[i][3]);
        }
    }

    private static void dropOfWideNothing() {
        Due.sentence("DROP .. none: .. or is so without any of them (WIDE 0)");
        NetLaw x = new NetLaw();
        x.wide(4, 0);
        due("holes, WIDE 0", x.dropped(4), NetLaw.NONE);
        Nets.tieAll(x, LEAD, 9, 5, 6, 9, 10);
        due("leads, WIDE 0", x.dropped(4), NetLaw.NONE);
        x.wide(4, 1);
        due("leads, WIDE 1", x.dropped(4), 1 << 5 | 1 << 6 | 1 << 9 | 1 << 10);
        x.rain(1);
        Nets.tieAll(x, REEF, 1, 5, 6, 9);
        due("three that hold nothing stay", x.dropped(4), 1 << 10);
    }

    private static void dropOfOneToFour() {
        Due.sentence("DROP ..: the fewest of its KNOTS (bits) that are to be dropped so that it is none");
        NetLaw x = new NetLaw();
        Nets.tieAll(x, REEF, 9, 10, 11, 14, 15);
        int[][] rows = {{30, 1 << 10}, {28, 1 << 10}, {27, 1 << 10 | 1 << 11}, {19, 1 << 10 | 1 << 11},
            {18, 1 << 10 | 1 << 11 | 1 << 14}, {10, 1 << 10 | 1 << 11 | 1 << 14}, {9, 52224}, {1, 52224}};
        for (int[] row : rows) {
            x.wide(8, row[0]);
            due("36 held, WIDE " + row[0], x.dropped(8), row[1]);
        }
        Due.sentence("DROP .. the fewest");
        NetLaw y = new NetLaw();
        Nets.tieAll(y, REEF, 3, 0, 1, 4);
        y.tie(5, REEF, 9, 0);
        y.wide(0, 10);
        // All three small ones would do as well, but one is fewer.
        due("the strong one alone", y.dropped(0), 1 << 5);
        y.wide(0, 9);
        due("it and the first of the others", y.dropped(0), 1 | 1 << 5);
    }

    private static void dropOfLikeOnes() {
        Due.sentence("DROP .. of like ones the least bits");
        NetLaw x = new NetLaw();
        x.tie(0, REEF, 1, 0);
        Nets.tieAll(x, REEF, 9, 1, 4, 5);
        x.wide(0, 20);
        due("one of 1, 4, 5", x.dropped(0), 1 << 1);
        x.wide(0, 11);
        due("two of 1, 4, 5: least are 1 and 4", x.dropped(0), 1 << 1 | 1 << 4);
        x.wide(0, 28);
        due("any of the four", x.dropped(0), 1);
    }

    private static void dropOfSplices() {
        Due.sentence("DROP .. (SPLICES by STRENGTH as it is then)");
        NetLaw x = new NetLaw();
        x.tie(0, SPLICE, 5, 0);
        x.tie(1, CORK, 9, 0);
        x.wide(0, 6);
        // The splice holds 9, the cork 5: without the cork 5, without the splice 5.
        due("either leaves 5", x.dropped(0), 1);
        x.wide(0, 5);
        due("both for 5", x.dropped(0), 3);
        x.tie(0, SPLICE, 5, 0);
        x.tie(1, CORK, 9, 0);
        x.tie(5, TARRED, 1, 0);
        x.tie(0, SPLICE, 4, 0);
        x.wide(0, 6);
        // Without the cork 4 and 1, without the splice 5 and 1: the cork takes 4 of the splice with it.
        due("the cork alone", x.dropped(0), 2);
        NetLaw y = new NetLaw();
        y.tie(1, SPLICE, 5, 0);
        y.tie(2, REEF, 8, 0);
        due("what is right of the last corner is none of its KNOTS", y.dropped(0), 2);
    }

    private static void dueLeast(String what, NetLaw x, int a, int b, int twine) {
        due(what, x.least(a, b, HOW_MUCH), twine);
        due(what + ", the other way", x.least(b, a, HOW_MUCH), twine);
    }

    /** What each knot gets, all others none. */
    private static void dueRow(String what, NetLaw x, int a, int b, int... knotsAndTwine) {
        int[] row = new int[16];
        for (int i = 0; i < knotsAndTwine.length; i += 2) {
            row[knotsAndTwine[i]] = knotsAndTwine[i + 1];
        }
        for (int k = 0; k < 16; k++) {
            due(what + ", knot " + k, x.least(a, b, k), row[k]);
        }
    }

    private static void leastOfHoles() {
        Due.sentence("LEAST TWINE ..: KNOTS of these that are no HOLES are mended .. none");
        NetLaw x = new NetLaw();
        dueLeast("a new net", x, 0, 8, NO_MENDING);
        x.tie(0, LEAD, 9, 0);
        x.drop(0);
        dueLeast("one that was dropped", x, 0, 0, NO_MENDING);
        Nets.wideAll(x, 1);
        dueLeast("WIDE 1", x, 0, 0, NO_MENDING);
        Nets.wideAll(x, 0);
        dueLeast("WIDE 0", x, 0, 8, 0);
        dueRow("WIDE 0", x, 0, 8);
        x.wide(8, 1);
        dueLeast("one of two", x, 0, 8, NO_MENDING);
        for (int k = 0; k < 16; k++) {
            due("none, knot " + k, x.least(0, 8, k), NO_MENDING);
        }
        // Knot 6 is of neither clause.
        x.tie(6, LEAD, 9, 0);
        dueLeast("one of neither", x, 0, 8, NO_MENDING);
    }

    private static void leastUpToNine() {
        Due.sentence("LEAST TWINE .. (to 9 at most)");
        for (int s = 1; s <= 9; s++) {
            NetLaw x = new NetLaw();
            x.tie(15, TARRED, s, 0);
            x.wide(8, s);
            dueLeast(s + " is as WIDE as " + s, x, 8, 8, 0);
            x.wide(8, 9);
            dueLeast("from " + s + " to 9", x, 8, 8, 9 - s);
            dueRow("from " + s + " to 9", x, 8, 8, 15, 9 - s);
            x.wide(8, 10);
            dueLeast("from " + s + " to 10", x, 8, 8, NO_MENDING);
            x.tie(15, SHEET, s, 0);
            x.wide(8, 18);
            dueLeast("a sheet from " + s + " to 18", x, 8, 8, 9 - s);
            x.wide(8, 19);
            dueLeast("a sheet from " + s + " to 19", x, 8, 8, NO_MENDING);
        }
    }

    private static void leastOfMuch() {
        Due.sentence("LEAST TWINE for two CLAUSES .. the least TWINE");
        NetLaw x = new NetLaw();
        Nets.wideAll(x, 30);
        Nets.tieAll(x, REEF, 1, 0, 1, 4, 5, 10, 11, 14, 15);
        dueLeast("26 for each", x, 0, 8, 52);
        dueRow("26 for each", x, 0, 8, 0, 2, 1, 8, 4, 8, 5, 8, 10, 2, 11, 8, 14, 8, 15, 8);
        x.rain(1);
        dueLeast("30 for each", x, 0, 8, 60);
        dueRow("30 for each", x, 0, 8, 0, 6, 1, 8, 4, 8, 5, 8, 10, 6, 11, 8, 14, 8, 15, 8);
        Nets.tieAll(x, CORK, 1, 0, 1, 4, 5);
        dueLeast("corks of 9 hold 20", x, 0, 0, NO_MENDING);
        x.wide(0, 20);
        dueLeast("that is enough", x, 0, 0, 32);
        x.wide(0, 21);
        dueLeast("and no more", x, 0, 0, NO_MENDING);
    }

    private static void leastOfAlike() {
        Due.sentence("LEAST TWINE for two CLAUSES (alike ones may be)");
        for (int c = 0; c < 9; c++) {
            NetLaw x = new NetLaw();
            int first = c / 3 * 4 + c % 3;
            x.tie(first, REEF, 4, 0);
            x.tie(first + 5, REEF, 4, 0);
            dueLeast("alike, clause " + c, x, c, c, 1);
            dueRow("alike, clause " + c, x, c, c, first + 5, 1);
        }
    }

    private static void leastOfSplices() {
        Due.sentence("LEAST TWINE .. (SPLICES by what is right of them as it is now)");
        NetLaw x = new NetLaw();
        x.tie(0, SPLICE, 2, 0);
        x.tie(1, REEF, 1, 0);
        x.wide(0, 4);
        // Knot 1 of 2 would lift the splice, too, so that 1 were enough for WIDE 5.
        dueLeast("one more", x, 0, 0, 1);
        dueRow("one more", x, 0, 0, 1, 1);
        x.wide(0, 5);
        dueLeast("two more", x, 0, 0, 2);
        x.tie(1, REEF, 2, 0);
        dueLeast("as it is now, 5 are held", x, 0, 0, 0);
        NetLaw y = new NetLaw();
        y.tie(1, SPLICE, 4, 0);
        y.tie(2, REEF, 8, 0);
        dueLeast("right of it and of no corner", y, 0, 0, 1);
        dueRow("right of it and of no corner", y, 0, 0, 1, 1);
    }

    private static void leastOfLikeOnes() {
        Due.sentence("LEAST TWINE .. of like ones the first row (by KNOTS)");
        NetLaw x = new NetLaw();
        Nets.tieAll(x, REEF, 8, 0, 1, 4, 5);
        x.wide(0, 30);
        due("32 are enough", x.least(0, 0, HOW_MUCH), 0);
        Nets.tieAll(x, REEF, 7, 0, 1, 4, 5);
        dueLeast("28 and 2", x, 0, 0, 2);
        dueRow("the last one gets both", x, 0, 0, 5, 2);
        x.tie(5, REEF, 8, 0);
        dueRow("the last one has room for 1", x, 0, 0, 5, 1);
        x.rain(1);
        dueLeast("25 and 5", x, 0, 0, 5);
        dueRow("the last three", x, 0, 0, 1, 2, 4, 2, 5, 1);
        x.tie(5, REEF, 7, 0);
        dueLeast("24 and 6", x, 0, 0, 6);
        dueRow("the last three have room for 6", x, 0, 0, 1, 2, 4, 2, 5, 2);
        x.tie(5, REEF, 9, 0);
        dueLeast("26 and 4", x, 0, 0, 4);
        dueRow("5 has none", x, 0, 0, 1, 2, 4, 2);
        x.tie(0, SHEET, 5, 0);
        // In rain: the sheet holds 8, the others 6, 6, 8; 2 are wanted, which one of the sheet gives.
        dueLeast("28 and 2", x, 0, 0, 1);
        dueRow("the least TWINE comes ahead of the first row", x, 0, 0, 0, 1);
    }

    private static void leastByTwineThatIsThere() {
        Due.sentence("20, LEAST TWINE: how much");
        for (int twine : new int[] {0, 2, 3, 99}) {
            NetLaw x = new NetLaw();
            x.twine(twine);
            x.tie(0, REEF, 6, 0);
            dueLeast("with TWINE " + twine, x, 0, 0, 3);
            dueRow("with TWINE " + twine, x, 0, 0, 0, 3);
        }
    }

    private static void leastOfTwoThatShare() {
        Due.sentence("LEAST TWINE .. so that both are LAW");
        NetLaw x = new NetLaw();
        x.tie(0, REEF, 5, 0);
        x.tie(1, REEF, 1, 0);
        x.tie(2, REEF, 5, 0);
        // Clauses 0 and 1 each hold 6 of 9: by knot 1 for both, or by 0 and by 2.
        dueLeast("the shared one for both", x, 0, 1, 3);
        dueRow("the shared one for both", x, 0, 1, 1, 3);
        x.wide(1, 8);
        dueLeast("3 and 2", x, 0, 1, 3);
        dueRow("0 and 3 come ahead of 1 and 2", x, 0, 1, 1, 3);
        x.wide(1, 6);
        dueLeast("3 and none", x, 0, 1, 3);
        dueRow("3 and none", x, 0, 1, 1, 3);
        x.wide(1, 9);
        x.tie(1, REEF, 9, 0);
        x.wide(0, 15);
        x.wide(1, 15);
        dueLeast("the shared one has 9", x, 0, 1, 2);
        dueRow("the shared one has 9", x, 0, 1, 0, 1, 2, 1);
        x.wide(1, 19);
        dueLeast("one of both is out of reach", x, 0, 1, NO_MENDING);
        x.wide(1, 18);
        dueLeast("just in reach", x, 0, 1, 5);
        dueRow("just in reach", x, 0, 1, 0, 1, 2, 4);
    }

    private static void leastOfNoneShared() {
        Due.sentence("LEAST TWINE .. (two CLAUSES that share no KNOT)");
        NetLaw x = new NetLaw();
        x.tie(0, SHEET, 1, 0);
        x.tie(15, REEF, 1, 0);
        dueLeast("4 for the sheet, 8 for the reef", x, 0, 8, 12);
        dueRow("4 for the sheet, 8 for the reef", x, 0, 8, 0, 4, 15, 8);
        x.wide(8, 10);
        dueLeast("out of reach for the reef", x, 0, 8, NO_MENDING);
        x.wide(8, 1);
        dueLeast("none for the reef", x, 0, 8, 4);
    }

    private static void leastOfOneShared() {
        Due.sentence("LEAST TWINE .. (two CLAUSES corner to corner share one KNOT)");
        NetLaw x = new NetLaw();
        x.tie(5, REEF, 1, 0);
        dueLeast("by the corner of 0 and 4", x, 0, 4, 8);
        dueRow("by the corner of 0 and 4", x, 0, 4, 5, 8);
        dueLeast("by the corner of 1 and 3", x, 1, 3, 8);
        dueRow("by the corner of 1 and 3", x, 1, 3, 5, 8);
        dueLeast("0 and 8 share none", x, 0, 8, NO_MENDING);
        // Two shared knots asked for ahead leave nothing behind for one.
        dueRow("by the side of 0 and 1", x, 0, 1, 5, 8);
        x.tie(0, SHEET, 1, 0);
        x.tie(10, SHEET, 3, 0);
        dueRow("the corner for both again", x, 0, 4, 5, 2, 0, 2);
        x.wide(4, 10);
        // Clause 0 wants 6 more, clause 4 wants 3: 5 by (1, 4, 0), (2, 2, 1), (2, 3, 0) or (3, 1, 1).
        dueLeast("four rows of 5", x, 0, 4, 5);
        dueRow("the first of four", x, 0, 4, 0, 1, 5, 4);
    }

    private static void leastOfTwoShared() {
        Due.sentence("LEAST TWINE .. (two CLAUSES beside each other share two KNOTS)");
        int[][] rows = {{0, 1, 1, 5}, {1, 2, 2, 6}, {0, 3, 4, 5}, {4, 5, 6, 10}, {5, 8, 10, 11}, {7, 8, 10, 14}};
        for (int[] row : rows) {
            int a = row[0];
            int b = row[1];
            int one = row[2];
            int other = row[3];
            NetLaw x = new NetLaw();
            Nets.wideAll(x, 18);
            x.tie(one, REEF, 8, 0);
            x.tie(other, REEF, 1, 0);
            dueLeast("as much as both have room for", x, a, b, 9);
            dueRow("as much as both have room for", x, a, b, one, 1, other, 8);
            Nets.wideAll(x, 17);
            dueLeast("one less", x, a, b, 8);
            dueRow("one less", x, a, b, other, 8);
            Nets.wideAll(x, 19);
            dueLeast("one more", x, a, b, NO_MENDING);
            Nets.wideAll(x, 17);
            x.tie(one, REEF, 1, 0);
            x.tie(other, REEF, 8, 0);
            dueRow("the first gets what the other has no room for", x, a, b, one, 7, other, 1);
            x.tie(other, SHEET, 1, 0);
            Nets.wideAll(x, 9);
            dueLeast("a sheet is cheaper", x, a, b, 3);
            dueRow("a sheet is cheaper", x, a, b, other, 3);
        }
    }

    private static void leastOneBehindAnother() {
        Due.sentence("20, what KNOT k gets (of these two CLAUSES, whatever was asked ahead)");
        NetLaw x = new NetLaw();
        Nets.tieAll(x, REEF, 5, 0, 5, 10, 15);
        for (int i = 0; i < 2; i++) {
            dueRow("clause 8", x, 8, 8);
            due("clause 2 has none", x.least(2, 8, 15), NO_MENDING);
            dueRow("clause 0", x, 0, 0);
            x.wide(0, 12);
            x.wide(8, 12);
            dueRow("clauses 0, 8", x, 0, 8, 5, 2, 15, 2);
            dueRow("clause 0 alone", x, 0, 0, 5, 2);
            dueRow("clause 8 alone", x, 8, 8, 15, 2);
            x.wide(0, 9);
            x.wide(8, 9);
        }
    }

    private static void setLaw(NetLaw x, int bits) {
        for (int c = 0; c < 9; c++) {
            x.wide(c, (bits >> c & 1) != 0 ? 0 : 1);
        }
    }

    /** The fewest clauses from start to the lower row, by going on from all that were reached; 0: no way. */
    private static int fewestFrom(int start, int law) {
        int reached = 1 << start & ~law;
        for (int gone = 1; gone <= 9; gone++) {
            if ((reached & 0b111000000) != 0) {
                return gone;
            }
            int leftOnes = reached & 0b110110110;
            int rightOnes = reached & 0b011011011;
            reached |= (reached << 3 | reached >> 3 | leftOnes >> 1 | rightOnes << 1) & 511 & ~law;
        }
        return 0;
    }

    private static void fishByLaw() {
        Due.sentence("FISH .. the fewest CLAUSES gone through (both ends, too)");
        int[][] rows = {
            {0b000000000, 3, 7}, {0b111111111, -1, -1}, {0b110110110, 3, 1}, {0b101101101, 3, 2}, {0b011011011, 3, 4},
            {0b101100110, 4, 1}, {0b101001011, 4, 4}, {0b101001101, 3, 2}, {0b011000110, 5, 1}, {0b110000011, 5, 4},
            {0b000111000, -1, -1}, {0b111000000, -1, -1}, {0b000000111, -1, -1}, {0b110010011, -1, -1},
            {0b011010110, -1, -1}, {0b111110110, -1, -1}, {0b110110111, -1, -1},
        };
        NetLaw x = new NetLaw();
        for (int[] row : rows) {
            setLaw(x, row[0]);
            due("by law " + Integer.toBinaryString(row[0]), x.fish(0), row[1]);
            due("from, by law " + Integer.toBinaryString(row[0]), x.fish(1), row[2]);
        }
        Due.sentence("FISH .. each beside the one ahead (above, below, left, right) .. none");
        for (int law = 0; law < 512; law++) {
            NetLaw y = new NetLaw();
            setLaw(y, law);
            int fewest = NetLaw.NONE;
            int from = NetLaw.NONE;
            for (int start = 0; start < 3; start++) {
                int gone = fewestFrom(start, law);
                if (gone > 0 && (fewest < 0 || gone <= fewest)) {
                    from = gone == fewest ? from | 1 << start : 1 << start;
                    fewest = gone;
                }
            }
            due("by law " + Integer.toBinaryString(law), y.fish(0), fewest);
            due("from, by law " + Integer.toBinaryString(law), y.fish(1), from);
        }
    }

    private static void precedentAtItsWidth() {
        Due.sentence("PRECEDENT ..: CLAUSES (bits) that are LAW by this net's WIDTHS");
        NetLaw x = new NetLaw();
        x.tie(0, REEF, 5, 0);
        x.tie(1, REEF, 3, 0);
        x.wide(0, 30);
        x.image(0);
        x.net(0, 0);
        x.tie(1, REEF, 4, 0);
        x.tie(15, REEF, 9, 0);
        // Knot 0 as there, knot 1 as here: 9.
        due("9 of 9", x.precedent(0), 257);
        x.wide(0, 10);
        due("9 of 10", x.precedent(0), 256);
        x.wide(0, 8);
        due("9 of 8", x.precedent(0), 257);
        x.wide(4, 0);
        due("WIDE 0", x.precedent(0), 273);
        Nets.wideAll(x, 30);
        due("WIDE 30", x.precedent(0), 0);
    }

    private static void precedentOfWhatIsKept() {
        Due.sentence("PRECEDENT with an IMAGE that is kept .. (by its own RAIN), whichever is more");
        NetLaw x = new NetLaw();
        x.image(1);
        due("a new one, kept", x.precedent(1), 0);
        x.tie(5, REEF, 9, 0);
        x.image(0);
        x.rain(1);
        due("here 8, there 9", x.precedent(0), 27);
        x.image(1);
        x.rain(0);
        due("here 9, there 8", x.precedent(1), 27);
        x.rain(1);
        due("8 here and there", x.precedent(1), 0);
        x.drop(5);
        due("a hole here", x.precedent(0), 27);
        x.net(1, 0);
        due("behind net", x.precedent(0), 27);
        x.image(0);
        due("kept anew", x.precedent(0), 0);
        NetLaw y = new NetLaw();
        y.tie(0, SPLICE, 5, 0);
        y.tie(1, TARRED, 8, 0);
        y.image(0);
        y.drop(1);
        // There the splice held 9 by the one right of it, which held 8.
        y.wide(0, 17);
        due("a splice by what is right of it there", y.precedent(0), 1);
        y.wide(0, 18);
        due("and no more", y.precedent(0), 0);
    }
}
