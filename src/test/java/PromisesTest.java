/** Each promise by its number: ordinary inputs, the edges that the document names, wrong inputs. */
public final class PromisesTest {
    private static final int[] WRONG = {-1, -2, Integer.MIN_VALUE, Integer.MAX_VALUE};

    public static void main(String[] args) {
        newObject();
        net();
        rainTwineHands();
        wide();
        tie();
        mend();
        drop();
        night();
        undo();
        typeAndClear();
        read();
        readFaults();
        readRefused();
        of();
        clause();
        laws();
        holdsAll();
        dropped();
        least();
        fish();
        precedent();
        readings();
        stood();
        menders();
        odds();
        drawn();
        part();
        images();
        status();
        count();
        digest();
        wrongNumbers();
        Due.end("PromisesTest");
    }

    private static void due(String what, long got, long want) {
        Due.due(what, got, want);
    }

    private static void newObject() {
        NetLaw x = new NetLaw();
        for (int k = 0; k < 16; k++) {
            for (int what = 0; what < 5; what++) {
                due("1: of(" + k + ", " + what + ")", x.of(k, what), 0);
            }
        }
        for (int c = 0; c < 9; c++) {
            due("1: wide at first", x.clause(c, 0), 9);
        }
        for (int what = 0; what < 8; what++) {
            due("1: count(" + what + ")", x.count(what), 0);
        }
        for (int what = 0; what < 3; what++) {
            due("1: status(" + what + ")", x.status(what), 0);
        }
        due("1: above", x.part(0), 0);
        due("1: below", x.part(1), 1);
        due("1: image 0", x.from(0), NetLaw.NO);
        due("1: image 1", x.from(1), NetLaw.NO);
    }

    private static void net() {
        NetLaw x = new NetLaw();
        x.tie(0, 1, 5, 2);
        x.tie(15, 2, 1, 1);
        x.hands(3);
        x.wide(4, 20);
        x.night();
        x.reading(1, 0, 1);
        x.type('n');
        x.odds(0, 5);
        x.wide(0, 5);
        x.odds(0, 5);
        x.image(1);
        due("2: below ahead", x.part(1), 2);
        due("2: net, 2 tied", x.net(1, 99), 2);
        due("2: rain", x.count(1), 1);
        due("2: twine", x.count(2), 99);
        for (int what : new int[] {0, 3, 4, 5, 6}) {
            due("2: count(" + what + ")", x.count(what), 0);
        }
        due("2: the text stays", x.count(7), 1);
        due("2: the fraction stays", x.part(1), 2);
        due("2: kind as at first", x.of(0, 0), 0);
        due("2: village as at first", x.of(0, 2), 0);
        due("2: width as at first", x.clause(4, 0), 9);
        due("2: nothing to undo", x.undo(), NetLaw.NO);
        due("2: status stays", x.status(1), 1);
        due("2: the image stays", x.from(1), 1);
        due("2: from the image", x.count(0), 2);
        due("2: rain 2", x.net(2, 0), NetLaw.BAD);
        due("2: rain -1", x.net(-1, 0), NetLaw.BAD);
        due("2: twine 100", x.net(0, 100), NetLaw.BAD);
        due("2: twine -1", x.net(0, -1), NetLaw.BAD);
        due("2: refused changes nothing", x.count(0), 2);
    }

    private static void rainTwineHands() {
        NetLaw x = new NetLaw();
        due("3: rain", x.rain(1), 0);
        due("3: rain again", x.rain(1), 1);
        due("3: rain 2", x.rain(2), NetLaw.BAD);
        due("3: rain -1", x.rain(-1), NetLaw.BAD);
        due("3: rain off", x.rain(0), 1);
        due("4: twine", x.twine(99), 0);
        due("4: twine 100", x.twine(100), NetLaw.BAD);
        due("4: twine -1", x.twine(-1), NetLaw.BAD);
        due("4: twine 0", x.twine(0), 99);
        due("4: what it was", x.twine(7), 0);
        due("5: hands", x.hands(65535), 0);
        due("5: hands 65536", x.hands(65536), NetLaw.BAD);
        due("5: hands -1", x.hands(-1), NetLaw.BAD);
        due("5: hands 0", x.hands(0), 65535);
        due("5: what they were", x.hands(5), 0);
        due("5: nothing to undo", x.count(6), 0);
    }

    private static void wide() {
        NetLaw x = new NetLaw();
        due("6: wide", x.wide(0, 30), 9);
        due("6: wide again", x.wide(0, 0), 30);
        due("6: the last", x.wide(8, 1), 9);
        due("6: another stays", x.clause(1, 0), 9);
        due("6: clause 9", x.wide(9, 1), NetLaw.BAD);
        due("6: clause -1", x.wide(-1, 1), NetLaw.BAD);
        due("6: width 31", x.wide(0, 31), NetLaw.BAD);
        due("6: width -1", x.wide(0, -1), NetLaw.BAD);
        due("6: as it was", x.clause(0, 0), 0);
        due("6: WIDE 0 is law", x.clause(0, 2), 1);
        due("6: nothing to undo", x.count(6), 0);
    }

    private static void tie() {
        NetLaw x = new NetLaw();
        due("7: tie", x.tie(15, 5, 9, 2), 0);
        due("7: tie in place", x.tie(15, 1, 1, 0), 9);
        due("7: kind", x.of(15, 0), 1);
        due("7: strength", x.of(15, 1), 1);
        due("7: village", x.of(15, 2), 0);
        due("7: knot 16", x.tie(16, 0, 1, 0), NetLaw.BAD);
        due("7: knot -1", x.tie(-1, 0, 1, 0), NetLaw.BAD);
        due("7: kind 6", x.tie(0, 6, 1, 0), NetLaw.BAD);
        due("7: kind -1", x.tie(0, -1, 1, 0), NetLaw.BAD);
        due("7: strength 0", x.tie(0, 0, 0, 0), NetLaw.BAD);
        due("7: strength 10", x.tie(0, 0, 10, 0), NetLaw.BAD);
        due("7: village 3", x.tie(0, 0, 1, 3), NetLaw.BAD);
        due("7: village -1", x.tie(0, 0, 1, -1), NetLaw.BAD);
        due("7: two to undo", x.count(6), 2);
    }

    private static void mend() {
        NetLaw x = new NetLaw();
        due("8: a hole", x.mend(3, 1), NetLaw.NO);
        x.tie(3, 2, 4, 1);
        due("8: no twine", x.mend(3, 1), NetLaw.NO);
        x.twine(9);
        due("8: beyond 9", x.mend(3, 6), NetLaw.NO);
        due("8: to 9", x.mend(3, 5), 9);
        due("8: twine left", x.count(2), 4);
        x.tie(3, 2, 4, 1);
        due("8: less twine", x.mend(3, 5), NetLaw.NO);
        due("8: all the twine", x.mend(3, 4), 8);
        due("8: no twine left", x.count(2), 0);
        due("8: n 0", x.mend(3, 0), NetLaw.BAD);
        due("8: n 10", x.mend(3, 10), NetLaw.BAD);
        due("8: knot 16", x.mend(16, 1), NetLaw.BAD);
        due("8: knot -1", x.mend(-1, 1), NetLaw.BAD);
        due("8: kind stays", x.of(3, 0), 2);
        due("8: village stays", x.of(3, 2), 1);
        due("8: refusals are not undone", x.count(6), 4);
    }

    private static void drop() {
        NetLaw x = new NetLaw();
        x.tie(7, 4, 6, 2);
        due("9: drop", x.drop(7), 6);
        due("9: a hole", x.drop(7), NetLaw.NO);
        due("9: it keeps its kind", x.of(7, 0), 4);
        due("9: it keeps its village", x.of(7, 2), 2);
        due("9: it holds 0", x.of(7, 3), 0);
        due("9: it rots 0", x.of(7, 4), 0);
        due("9: knot 16", x.drop(16), NetLaw.BAD);
        due("9: knot -1", x.drop(-1), NetLaw.BAD);
        due("9: two to undo", x.count(6), 2);
    }

    private static void night() {
        NetLaw x = new NetLaw();
        for (int kind = 0; kind < 6; kind++) {
            x.tie(kind, kind, 9, 0);
            x.tie(8 + kind, kind, 9, 0);
        }
        x.hands(63);
        int[][] left = {
            {8, 9, 7, 9, 7, 8}, // night 0
            {7, 8, 5, 8, 6, 7}, // night 1
            {6, 8, 3, 8, 5, 6}, // night 2
            {5, 7, 1, 7, 3, 5}, // night 3
            {4, 7, 0, 7, 2, 4}, // night 4
            {3, 6, 0, 6, 1, 3}, // night 5
            {2, 6, 0, 6, 0, 2}, // night 6
        };
        for (int n = 0; n < left.length; n++) {
            due("10: night " + n, x.night(), n == 4 || n == 6 ? 1 : 0);
            due("10: the night is one more", x.count(4), n + 1);
            for (int k = 0; k < 6; k++) {
                due("10: night " + n + " leaves knot " + k, x.of(k, 1), left[n][k]);
                due("10: no hands", x.of(8 + k, 1), 9);
            }
        }
        due("10: a hole keeps its kind", x.of(2, 0), 2);
        x.hands(1 << 15);
        due("10: a hole becomes none", x.night(), 0);
    }

    private static void undo() {
        NetLaw x = new NetLaw();
        due("11: none", x.undo(), NetLaw.NO);
        x.twine(10);
        x.tie(0, 3, 2, 1);
        x.twine(20);
        x.mend(0, 3);
        x.twine(50);
        x.rain(1);
        x.hands(1);
        x.wide(0, 3);
        x.reading(1, 0, 1);
        due("11: twine as ahead of the mending", x.undo(), 20);
        due("11: strength as ahead", x.of(0, 1), 2);
        due("11: rain stays", x.count(1), 1);
        due("11: hands stay", x.count(3), 1);
        due("11: width stays", x.clause(0, 0), 3);
        due("11: readings stay", x.count(5), 1);
        due("11: twine as ahead of the tying", x.undo(), 10);
        due("11: kind as ahead", x.of(0, 0), 0);
        due("11: village as ahead", x.of(0, 2), 0);
        due("11: no more", x.undo(), NetLaw.NO);
        for (int i = 1; i <= 9; i++) {
            x.tie(5, 0, i, 0);
        }
        due("11: 8 at most", x.count(6), 8);
        for (int i = 8; i >= 1; i--) {
            due("11: undo", x.undo(), 10);
            due("11: strength", x.of(5, 1), i);
        }
        due("11: the ninth is gone", x.undo(), NetLaw.NO);
        x.hands(1 << 5);
        due("11: a night makes a hole", x.night(), 1);
        due("11: undo a night", x.undo(), 10);
        due("11: the night as ahead", x.count(4), 0);
        due("11: the knot as ahead", x.of(5, 1), 1);
        x.drop(5);
        x.undo();
        due("11: undo a drop", x.of(5, 1), 1);
        due("11: NO counts", x.status(1), 3);
    }

    private static void typeAndClear() {
        NetLaw x = new NetLaw();
        due("12: the first", x.type(0), 1);
        due("12: byte 128", x.type(128), NetLaw.BAD);
        due("12: byte -1", x.type(-1), NetLaw.BAD);
        for (int i = 2; i <= 150; i++) {
            due("12: byte " + i, x.type(127), i);
        }
        due("12: full", x.type(1), NetLaw.FULL);
        due("12: BAD ahead of FULL", x.type(128), NetLaw.BAD);
        due("12: FULL counts", x.status(2), 1);
        due("13: clear", x.clear(), 150);
        due("13: empty", x.clear(), 0);
        due("13: on again", x.type(65), 1);
    }

    private static int readText(NetLaw x, String text) {
        Due.typeAll(x, text);
        return x.read();
    }

    private static void read() {
        NetLaw x = new NetLaw();
        x.tie(9, 1, 1, 1);
        x.hands(7);
        x.reading(1, 0, 1);
        x.wide(3, 1);
        x.night();
        due("14: items", readText(x, "net 1 42;knot 15 5 9 2;wide 8 30;knot 15 4 8 1;"), 4);
        due("14: rain", x.count(1), 1);
        due("14: twine", x.count(2), 42);
        due("14: knots by these alone", x.count(0), 1);
        due("14: in their order", x.of(15, 0), 4);
        due("14: strength", x.of(15, 1), 8);
        due("14: village", x.of(15, 2), 1);
        due("14: width", x.clause(8, 0), 30);
        due("14: widths by these alone", x.clause(3, 0), 9);
        due("14: hands none", x.count(3), 0);
        due("14: the night 0", x.count(4), 0);
        due("14: readings none", x.count(5), 0);
        due("14: nothing may be undone", x.undo(), NetLaw.NO);
        due("14: the text stays", x.count(7), 47);
        due("14: again", x.read(), 4);
        due("14: a net alone", readText(x, "net 0 0;"), 1);
        due("14: blanks", readText(x, "  net  0   05 ;  wide 08 09  ;  "), 2);
        due("14: two figures", x.count(2), 5);
        due("14: tokens without blanks", readText(x, "net1 2;wide3 4;"), 2);
        due("14: told so", x.clause(3, 0), 4);
        StringBuilder most = new StringBuilder("net0 0;");
        for (int i = 0; i < 17; i++) {
            most.append("wide0 9;");
        }
        due("14: as many items as there may be", readText(x, most.toString()), 18);
        due("14: with blanks to the end", readText(x, most + "       "), 18);
        due("14: a text that is full", x.count(7), 150);
        due("14: no refusals but the undo", x.status(0) + x.status(2), 0);
    }

    private static void readFaults() {
        Object[][] rows = {
            {"", 0}, {"   ", 3}, {"net", 3}, {"net 1", 5}, {"net 1 2", 7}, {"net 1 2  ", 9},
            {"ne", 0}, {"nett 1 2;", 0}, {" Net 1 2;", 1}, {"neT 1 2;", 0}, {"1 net 1 2;", 0},
            {"; net 1 2;", 0}, {"knot 1 1 1 1;", 0}, {"wide 1 1;net 0 0;", 0},
            {"net 1 2;net 1 2;", 8}, {"net 1;", 5}, {"net 1 2 3;", 8}, {"net 100 2;", 4},
            {"net 1 2;;", 8}, {"net 1 2; knot 1 1 1;", 19}, {"net 1 2; knot 1 1 1 1 1;", 22},
            {"net 1 2; knot 1 1 1 1", 21}, {"net 1 2; wide 1 001;", 16}, {"net -1 2;", 4},
            {"net 1 2;\n", 8}, {"net 1 2;wid", 8}, {"net 1 2;wide", 12}, {"net 1 2;rope 1;", 8},
            {"net 1 2;wide a 1;", 13}, {"net 1 2;wide 1 1:", 16}, {"net 3 2;wide 99 1;!", 18},
            {"netknot 1 2;", 0}, {"netz 1 2;", 0}, {"neta 1 2;", 0}, {"net{1 2;", 3}, {"net`1 2;", 3},
            {"net 1/2;", 5}, {"net 1 2:", 7}, {"net 1 2;wide 123456789012 1;", 13},
        };
        NetLaw x = new NetLaw();
        x.tie(3, 3, 3, 2);
        for (Object[] row : rows) {
            due("14: fault in '" + row[0] + "'", readText(x, (String) row[0]), -10 - (Integer) row[1]);
        }
        due("14: nothing changes", x.of(3, 1), 3);
        due("14: it may be undone still", x.count(6), 1);
        due("14: a fault is none of STATUS", x.status(0) + x.status(1) + x.status(2), 0);
    }

    private static void readRefused() {
        Object[][] rows = {
            {"net 2 2;", 0}, {"net 99 99;wide 9 1;", 0}, {"net 1 2;wide 9 1;", 1}, {"net 1 2;wide 0 31;", 1},
            {"net 1 2;knot 16 0 1 0;", 1}, {"net 1 2;wide 1 1;knot 1 6 1 0;", 2},
            {"net 1 2;wide 1 1;knot 1 0 0 0;wide 9 9;", 2}, {"net 1 2;knot 1 0 10 0;", 1},
            {"net 1 2;wide 1 1;wide 1 1;knot 1 0 1 3;", 3},
        };
        NetLaw x = new NetLaw();
        x.tie(3, 3, 3, 2);
        for (Object[] row : rows) {
            due("14: refused in '" + row[0] + "'", readText(x, (String) row[0]), -1000 - (Integer) row[1]);
        }
        due("14: nothing changes", x.of(3, 1), 3);
        due("14: nor a width", x.clause(1, 0), 9);
        due("14: nor what may be undone", x.count(6), 1);
        due("14: ITEMS are none of STATUS", x.status(0) + x.status(1) + x.status(2), 0);
    }

    private static void of() {
        NetLaw x = new NetLaw();
        int[][] dry = {{1, 1, 2, 1, 5, 1}, {5, 5, 10, 3, 13, 5}, {8, 8, 16, 4, 19, 8}};
        int[][] wet = {{0, 1, 0, 1, 0, 0}, {4, 5, 8, 3, 8, 4}, {7, 8, 14, 4, 14, 7}};
        int[] strengths = {1, 5, 8};
        for (int i = 0; i < strengths.length; i++) {
            for (int kind = 0; kind < 6; kind++) {
                x.tie(4, kind, strengths[i], 0);
                x.rain(0);
                due("15: dry kind " + kind + " of " + strengths[i], x.of(4, 3), dry[i][kind]);
                x.rain(1);
                due("15: wet kind " + kind + " of " + strengths[i], x.of(4, 3), wet[i][kind]);
            }
        }
        x.net(0, 0);
        x.tie(4, 5, 5, 0);
        x.tie(5, 3, 9, 0);
        due("15: a splice by what is right of it", x.of(4, 3), 9);
        x.drop(5);
        due("15: a hole right of it", x.of(4, 3), 5);
        x.tie(7, 5, 5, 0);
        x.tie(8, 0, 9, 0);
        due("15: nothing right of the last in a row", x.of(7, 3), 5);
        int[][] rots = {{1, 0, 2, 0, 2, 1}, {1, 1, 2, 1, 1, 1}, {1, 0, 2, 0, 1, 1}, {1, 1, 2, 1, 2, 1}};
        for (int[] inNight : rots) {
            for (int kind = 0; kind < 6; kind++) {
                x.tie(0, kind, 1, 0);
                due("15: kind " + kind + " rots", x.of(0, 4), inNight[kind]);
            }
            x.night();
        }
        due("15: what 5", x.of(0, 5), NetLaw.BAD);
        due("15: what -1", x.of(0, -1), NetLaw.BAD);
        due("15: knot 16", x.of(16, 0), NetLaw.BAD);
        due("15: knot -1", x.of(-1, 0), NetLaw.BAD);
    }

    private static void clause() {
        NetLaw x = new NetLaw();
        x.tie(10, 0, 9, 0);
        for (int c = 0; c < 9; c++) {
            boolean has = c == 4 || c == 5 || c == 7 || c == 8;
            due("16: holds of " + c, x.clause(c, 1), has ? 9 : 0);
            due("16: law of " + c, x.clause(c, 2), has ? 1 : 0);
        }
        x.wide(4, 10);
        due("16: wide", x.clause(4, 0), 10);
        due("16: no law, 1 short", x.clause(4, 2), 0);
        due("16: what 3", x.clause(0, 3), NetLaw.BAD);
        due("16: what -1", x.clause(0, -1), NetLaw.BAD);
        due("16: clause 9", x.clause(9, 0), NetLaw.BAD);
        due("16: clause -1", x.clause(-1, 0), NetLaw.BAD);
    }

    private static void laws() {
        NetLaw x = new NetLaw();
        due("17: none", x.laws(), 0);
        x.tie(5, 0, 9, 0);
        due("17: around 5", x.laws(), 1 | 2 | 8 | 16);
        x.tie(15, 0, 9, 0);
        due("17: around 15", x.laws(), 1 | 2 | 8 | 16 | 256);
        x.rain(1);
        due("17: in rain", x.laws(), 0);
        x.wide(6, 0);
        due("17: wide 0", x.laws(), 64);
    }

    private static void holdsAll() {
        NetLaw x = new NetLaw();
        due("18: none", x.holdsAll(0), NetLaw.NONE);
        due("18: none, how many", x.holdsAll(1), NetLaw.NONE);
        x.tie(12, 0, 1, 0);
        x.tie(13, 0, 1, 0);
        due("18: no law to lose: the first", x.holdsAll(0), 12);
        due("18: no law to lose: 0", x.holdsAll(1), 0);
        x.tie(5, 0, 9, 0);
        x.tie(10, 0, 9, 0);
        due("18: of like ones the first", x.holdsAll(0), 5);
        due("18: how many (4 has both)", x.holdsAll(1), 3);
        x.net(0, 0);
        for (int c = 0; c < 9; c++) {
            x.wide(c, 30);
        }
        x.wide(0, 7);
        x.wide(1, 9);
        x.tie(1, 5, 5, 0);
        x.tie(2, 0, 4, 0);
        due("18: a splice loses by it", x.holdsAll(1), 2);
        x.wide(0, 6);
        x.wide(1, 12);
        due("18: the right one takes the left one's law", x.holdsAll(0), 1);
        x.tie(1, 5, 5, 0);
        x.tie(5, 0, 1, 0);
        x.wide(0, 8);
        x.wide(1, 12);
        due("18: 1 (of 1, 2, 5) is the first", x.holdsAll(0), 1);
        due("18: of both", x.holdsAll(1), 2);
        due("18: what 2", x.holdsAll(2), NetLaw.BAD);
        due("18: what -1", x.holdsAll(-1), NetLaw.BAD);
    }

    private static void dropped() {
        NetLaw x = new NetLaw();
        due("19: no law", x.dropped(0), NetLaw.NONE);
        x.wide(0, 0);
        due("19: wide 0", x.dropped(0), NetLaw.NONE);
        x.wide(0, 9);
        x.tie(0, 0, 9, 0);
        due("19: one", x.dropped(0), 1);
        x.tie(1, 0, 9, 0);
        due("19: two", x.dropped(0), 3);
        x.tie(4, 0, 9, 0);
        due("19: three", x.dropped(0), 1 | 2 | 16);
        x.tie(5, 0, 9, 0);
        due("19: four", x.dropped(0), 1 | 2 | 16 | 32);
        x.wide(0, 30);
        due("19: the least bits", x.dropped(0), 1);
        x.net(0, 0);
        x.wide(0, 9);
        x.tie(0, 5, 6, 0);
        x.tie(1, 3, 9, 0);
        due("19: a splice as it is then", x.dropped(0), 1);
        x.tie(4, 0, 3, 0);
        due("19: 0 alone would leave 8, 1 alone 9", x.dropped(0), 1);
        x.wide(0, 10);
        x.tie(4, 0, 4, 0);
        x.tie(0, 5, 5, 0);
        due("19: both leave 9: the least", x.dropped(0), 1);
        x.tie(0, 5, 4, 0);
        x.tie(1, 0, 9, 0);
        x.wide(0, 12);
        due("19: 1 takes 4 of the splice with it", x.dropped(0), 2);
        due("19: clause 9", x.dropped(9), NetLaw.BAD);
        due("19: clause -1", x.dropped(-1), NetLaw.BAD);
    }

    private static void least() {
        NetLaw x = new NetLaw();
        due("20: holes", x.least(0, 0, -1), -5);
        x.wide(3, 0);
        x.wide(4, 0);
        due("20: wide 0", x.least(3, 4, -1), 0);
        x.net(0, 0);
        x.tie(0, 0, 1, 0);
        due("20: a reef to 9", x.least(0, 0, -1), 8);
        due("20: what it gets", x.least(0, 0, 0), 8);
        due("20: a hole gets none", x.least(0, 0, 1), 0);
        x.wide(0, 10);
        due("20: beyond 9", x.least(0, 0, -1), -5);
        due("20: none for each k", x.least(0, 0, 15), -5);
        x.tie(1, 0, 1, 0);
        due("20: two reefs", x.least(0, 0, -1), 8);
        due("20: the first row: the first gets least", x.least(0, 0, 0), 0);
        due("20: and the other all", x.least(0, 0, 1), 8);
        x.wide(0, 12);
        due("20: split", x.least(0, 0, 0), 2);
        x.tie(0, 3, 1, 0);
        x.wide(0, 9);
        due("20: a cork wants two", x.least(0, 0, -1), 7);
        x.wide(0, 10);
        due("20: a cork's first gain costs 2", x.least(0, 0, -1), 8);
        due("20: so the reef gets all", x.least(0, 0, 1), 8);
        x.net(0, 0);
        x.tie(1, 0, 1, 0);
        x.tie(0, 2, 1, 0);
        due("20: a sheet is cheaper", x.least(0, 0, -1), 3);
        due("20: for both the shared one", x.least(0, 1, -1), 8);
        due("20: gets all", x.least(0, 1, 1), 8);
        x.net(0, 0);
        x.tie(0, 5, 1, 0);
        x.tie(1, 0, 5, 0);
        x.wide(0, 10);
        due("20: a splice as it is now", x.least(0, 0, -1), 2);
        due("20: splice gets none", x.least(0, 0, 0), 0);
        due("20: the right one 2", x.least(0, 0, 1), 2);
        x.net(0, 0);
        x.tie(1, 0, 1, 0);
        x.tie(5, 2, 1, 0);
        due("20: the cheaper of two shared", x.least(0, 1, -1), 3);
        due("20: it gets 3", x.least(1, 0, 5), 3);
        x.net(0, 0);
        x.tie(0, 4, 1, 0);
        x.tie(5, 0, 1, 0);
        x.tie(10, 0, 4, 0);
        // Clause 0 wants 3, clause 4 wants 4; by the shared knot 4, or 3 and 1 of knot 10: the first row.
        due("20: shared and own", x.least(0, 4, -1), 4);
        due("20: the lead none", x.least(0, 4, 0), 0);
        due("20: the shared 3", x.least(0, 4, 5), 3);
        due("20: the own 1", x.least(0, 4, 10), 1);
        x.net(0, 0);
        x.tie(0, 5, 1, 0);
        x.tie(1, 0, 5, 0);
        due("20: twine as now is free", x.count(2), 0);
        due("20: nothing changes", x.of(1, 1), 5);
        due("20: a 9", x.least(9, 0, 0), -10);
        due("20: b -1", x.least(0, -1, 0), -10);
        due("20: k 16", x.least(0, 0, 16), -10);
        due("20: k -2", x.least(0, 0, -2), -10);
        due("20: they count as BAD", x.status(0), 4);
        due("20: -5 is none", x.status(1) + x.status(2), 0);
    }

    private static void setLaw(NetLaw x, int bits) {
        x.net(0, 0);
        for (int c = 0; c < 9; c++) {
            x.wide(c, (bits >> c & 1) != 0 ? 0 : 1);
        }
    }

    private static void fish() {
        NetLaw x = new NetLaw();
        // Clauses that are law (8 first, 0 last), the fewest, from which.
        int[][] rows = {
            {0, 3, 7}, {511, -1, -1}, {0b000111000, -1, -1}, {0b111000000, -1, -1}, {0b000000111, -1, -1},
            {0b010101010, -1, -1}, {0b000011000, 3, 4}, {0b000101000, 3, 2}, {0b000110000, 3, 1},
            {0b010010000, 3, 5}, {0b000100110, 3, 1}, {0b101100100, 3, 2}, {0b001100010, 4, 1},
            {0b011000100, 4, 2}, {0b011001000, 3, 4}, {0b011001001, 3, 4}, {0b011000110, 5, 1},
            {0b110000011, 5, 4}, {0b011001100, 4, 2},
        };
        for (int[] row : rows) {
            setLaw(x, row[0]);
            due("21: fewest by law " + Integer.toBinaryString(row[0]), x.fish(0), row[1]);
            due("21: from by law " + Integer.toBinaryString(row[0]), x.fish(1), row[2]);
        }
        due("21: what 2", x.fish(2), NetLaw.BAD);
        due("21: what -1", x.fish(-1), NetLaw.BAD);
    }

    private static void precedent() {
        NetLaw x = new NetLaw();
        due("22: none was kept", x.precedent(0), NetLaw.NO);
        due("22: image 2", x.precedent(2), NetLaw.BAD);
        due("22: image -1", x.precedent(-1), NetLaw.BAD);
        x.tie(0, 5, 6, 0);
        x.tie(1, 0, 6, 0);
        x.wide(8, 0);
        x.image(1);
        x.net(1, 0);
        x.tie(15, 1, 9, 0);
        due("22: law here", x.laws(), 256);
        // Knot 0 held 9, knot 1 held 6 (without rain, the splice by its own right one).
        due("22: by whichever is more", x.precedent(1), 1 | 256);
        x.wide(1, 6);
        due("22: by this net's widths", x.precedent(1), 1 | 2 | 256);
        x.wide(0, 16);
        due("22: 15 are less than 16", x.precedent(1), 2 | 256);
        x.tie(4, 0, 2, 0);
        due("22: here and there together", x.precedent(1), 1 | 2 | 256);
        x.tie(1, 4, 9, 0);
        due("22: more here", x.precedent(1), 1 | 2 | 256);
        due("22: the other was not kept", x.precedent(0), NetLaw.NO);
    }

    private static void readings() {
        NetLaw x = new NetLaw();
        due("25: all", x.may(), 63);
        due("26: all", x.tries(), 14);
        for (int i = 1; i <= 6; i++) {
            due("23: reading", x.reading(i, 0, 2 * i), i);
        }
        due("23: full", x.reading(1, 0, 1), NetLaw.FULL);
        due("23: BAD ahead of FULL", x.reading(0, 0, 1), NetLaw.BAD);
        due("25: a sheet", x.may(), 4);
        due("26: one kind", x.tries(), 1);
        due("24: forget", x.forget(), 6);
        due("24: none", x.forget(), 0);
        due("25: all again", x.may(), 63);
        due("23: strength 10", x.reading(10, 0, 1), NetLaw.BAD);
        due("23: rain 2", x.reading(1, 2, 1), NetLaw.BAD);
        due("23: rain -1", x.reading(1, -1, 1), NetLaw.BAD);
        due("23: v -1", x.reading(1, 0, -1), NetLaw.BAD);
        due("23: v 31", x.reading(1, 0, 31), NetLaw.BAD);
        due("23: v 30", x.reading(1, 0, 30), 1);
        due("25: no kind", x.may(), 0);
        due("26: no kind", x.tries(), NetLaw.NONE);
        x.forget();
        x.reading(9, 1, 16);
        due("25: sheet, lead", x.may(), 4 | 16);
        due("26: lead holds 3 more when dry", x.tries(), 1);
        x.forget();
        x.reading(1, 1, 1);
        due("25: tarred, cork", x.may(), 2 | 8);
        due("26: a strength of 2 tells them", x.tries(), 2);
        x.forget();
        x.reading(9, 0, 9);
        due("25: reef, tarred, splice", x.may(), 1 | 2 | 32);
        due("26: rain tells", x.tries(), 11);
        x.reading(5, 1, 4);
        due("25: reef, splice", x.may(), 1 | 32);
        due("26: nothing tells", x.tries(), 1);
        due("26: it changes nothing", x.count(5), 2);
    }

    private static void stood() {
        NetLaw x = new NetLaw();
        // In knot 0 alone: a law of 9 by reef 9, tarred 9, sheet 5.., lead 3.., splice 9.
        due("27: law", x.stood(0, 1, 0), 1 + 1 + 5 + 0 + 7 + 1);
        due("27: the first", x.stood(0, 1, 1), 9);
        due("27: no law", x.stood(0, 0, 0), 39);
        due("27: the first of none", x.stood(0, 0, 1), 1);
        x.rain(1);
        due("27: in rain", x.stood(0, 1, 1), 19);
        x.rain(0);
        x.wide(0, 22);
        due("27: none", x.stood(0, 1, 0), 0);
        due("27: none first", x.stood(0, 1, 1), NetLaw.NONE);
        x.wide(0, 21);
        due("27: a lead of 9", x.stood(0, 1, 1), 49);
        x.net(0, 0);
        x.tie(0, 5, 7, 0);
        // In knot 1 a strength of 4 gives the splice 2: clause 0 has 7 and 2 and 4.
        due("27: clauses 0, not 1", x.stood(1, 1, 1), 2);
        due("27: clauses 1, not 0", x.stood(1, 2, 0), 0);
        due("27: clauses not here", x.stood(1, 4, 0), -10);
        due("27: clauses 512", x.stood(1, 512, 0), -10);
        due("27: clauses -1", x.stood(1, -1, 0), -10);
        due("27: what 2", x.stood(1, 0, 2), -10);
        due("27: what -1", x.stood(1, 0, -1), -10);
        due("27: knot 16", x.stood(16, 0, 0), -10);
        due("27: knot -1", x.stood(-1, 0, 0), -10);
        due("27: BAD", x.status(0), 7);
        due("27: no hole", x.stood(0, 1, 0), -20);
        due("27: BAD ahead of NO", x.stood(0, 2, 0), -10);
        due("27: NO", x.status(1), 1);
        due("27: changes nothing", x.of(1, 1), 0);
    }

    private static void menders() {
        NetLaw x = new NetLaw();
        due("28: holes: none, none rests", x.menders(0, 8, 1, 1), 17 * 16 + 16);
        x.tie(0, 0, 5, 0);
        due("28: one would mend by 4", x.menders(0, 8, 4, 1), 0 * 17 + 16);
        due("28: alone", x.menders(0, 8, 4, 0), 1);
        due("28: by 3 it is too little", x.menders(0, 8, 3, 1), 17 * 16 + 16);
        due("28: the other way", x.menders(8, 0, 4, 1), 16 * 17);
        due("28: by 9 it has 9", x.menders(0, 8, 9, 1), 16);
        x.net(0, 0);
        x.tie(5, 0, 5, 0);
        // One mends the shared knot for both: either may be the one.
        due("28: either", x.menders(0, 4, 4, 0), 2);
        due("28: the first", x.menders(0, 4, 4, 1), 5 * 17 + 16);
        // By twice 2 it is law for both, and 8 is more than 0; by one alone it is none.
        due("28: both or none", x.menders(0, 4, 2, 0), 2);
        due("28: both first", x.menders(0, 4, 2, 1), 5 * 17 + 5);
        x.net(0, 0);
        x.tie(1, 5, 5, 0);
        x.tie(2, 0, 4, 0);
        x.wide(0, 9);
        x.wide(2, 9);
        // The other's mending of 2 to 8 lifts the splice of 1 to 9: as it is then.
        x.wide(2, 8);
        due("28: splices as they are then", x.menders(0, 2, 4, 1), 16 * 17 + 2);
        due("28: that alone rests", x.menders(0, 2, 4, 0), 1);
        due("28: nothing changes", x.of(2, 1), 4);
        due("28: alike", x.menders(3, 3, 1, 0), -10);
        due("28: a 9", x.menders(9, 3, 1, 0), -10);
        due("28: b -1", x.menders(0, -1, 1, 0), -10);
        due("28: m 0", x.menders(0, 1, 0, 0), -10);
        due("28: m 10", x.menders(0, 1, 10, 0), -10);
        due("28: what 2", x.menders(0, 1, 1, 2), -10);
        due("28: what -1", x.menders(0, 1, 1, -1), -10);
        due("28: BAD", x.status(0), 7);
    }

    private static void dueFraction(String what, NetLaw x, long above, long below) {
        due(what + ", above", x.part(0), above);
        due(what + ", below", x.part(1), below);
    }

    private static void odds() {
        NetLaw x = new NetLaw();
        x.tie(0, 0, 9, 0);
        due("29: odds", x.odds(0, 3), 1);
        dueFraction("29: one knot", x, 7, 10);
        x.tie(1, 0, 9, 0);
        x.odds(0, 3);
        dueFraction("29: either of two", x, 91, 100);
        x.odds(0, 5);
        dueFraction("29: lowest terms", x, 3, 4);
        x.odds(0, 0);
        dueFraction("29: none slips", x, 1, 1);
        x.odds(0, 10);
        dueFraction("29: all slip", x, 0, 1);
        x.wide(0, 0);
        x.odds(0, 10);
        dueFraction("29: wide 0", x, 1, 1);
        x.net(0, 0);
        x.tie(1, 5, 6, 0);
        x.tie(2, 0, 7, 0);
        x.odds(0, 1);
        dueFraction("29: a splice and the one right of it", x, 81, 100);
        x.odds(2, 1);
        dueFraction("29: 7 is no law", x, 0, 1);
        due("29: c 11", x.odds(0, 11), NetLaw.BAD);
        due("29: c -1", x.odds(0, -1), NetLaw.BAD);
        due("29: clause 9", x.odds(9, 1), NetLaw.BAD);
        due("29: clause -1", x.odds(-1, 1), NetLaw.BAD);
        dueFraction("29: BAD leaves it", x, 0, 1);
    }

    private static void drawn() {
        NetLaw x = new NetLaw();
        for (int k = 0; k < 16; k++) {
            x.tie(k, 0, 9, 0);
        }
        for (int c = 0; c < 9; c++) {
            x.wide(c, 30);
        }
        due("30: no night", x.drawn(5, 0), 9);
        // SEED 0: X is 12345, HANDS are 0 in the first night.
        due("30: no hands", x.drawn(0, 1), 9);
        for (int c = 0; c < 9; c++) {
            x.wide(c, 27);
        }
        due("30: 30 nights of rot", x.drawn(0, 30), 0);
        // SEED 1: X is 1103527590; by 32768: 33676, bits 2, 3, 7, 8, 9, 15.
        for (int c = 0; c < 9; c++) {
            x.wide(c, 30);
        }
        x.net(0, 0);
        int[] of = {2, 3, 7, 8, 9, 15};
        for (int k = 0; k < 16; k++) {
            x.tie(k, 0, 1, 0);
        }
        for (int c = 0; c < 9; c++) {
            x.wide(c, 4);
        }
        int whole = 0;
        for (int c = 0; c < 9; c++) {
            boolean hit = false;
            for (int k : of) {
                int row = k / 4 - c / 3;
                int column = k % 4 - c % 3;
                hit |= row >= 0 && row <= 1 && column >= 0 && column <= 1;
            }
            whole += hit ? 0 : 1;
        }
        due("30: seed 1, a night", x.drawn(1, 1), whole);
        due("30: nothing changes", x.count(0), 16);
        due("30: nor the night", x.count(4), 0);
        due("30: nor hands", x.count(3), 0);
        due("30: the last seed", x.drawn(999999, 0), 9);
        due("30: seed 1000000", x.drawn(1000000, 1), NetLaw.BAD);
        due("30: seed -1", x.drawn(-1, 1), NetLaw.BAD);
        due("30: m 31", x.drawn(1, 31), NetLaw.BAD);
        due("30: m -1", x.drawn(1, -1), NetLaw.BAD);
    }

    private static void part() {
        NetLaw x = new NetLaw();
        dueFraction("31: at first", x, 0, 1);
        x.tie(15, 4, 9, 0);
        x.odds(8, 4);
        dueFraction("31: 6 of 10", x, 3, 5);
        x.tie(15, 4, 1, 0);
        dueFraction("31: it stays", x, 3, 5);
        due("31: what 2", x.part(2), NetLaw.BAD);
        due("31: what -1", x.part(-1), NetLaw.BAD);
    }

    private static void images() {
        NetLaw x = new NetLaw();
        due("33: none was kept", x.from(0), NetLaw.NO);
        x.net(1, 40);
        x.tie(0, 1, 5, 1);
        x.night();
        x.hands(9);
        x.wide(3, 3);
        x.reading(4, 1, 3);
        x.type('a');
        due("32: image", x.image(0), 1);
        long digest = x.digest();
        x.type('b');
        x.tie(15, 1, 9, 0);
        x.odds(8, 5);
        x.net(0, 0);
        x.reading(1, 0, 1);
        due("32: image 1", x.image(1), 1);
        due("33: from 0", x.from(0), 1);
        due("33: rain", x.count(1), 1);
        due("33: twine", x.count(2), 40);
        due("33: hands", x.count(3), 9);
        due("33: the night", x.count(4), 1);
        due("33: readings", x.count(5), 1);
        due("33: that may be undone", x.count(6), 2);
        due("33: the text stays", x.count(7), 2);
        due("33: the fraction stays", x.part(1), 2);
        due("33: a width", x.clause(3, 0), 3);
        due("33: may of the readings", x.may(), 1 | 32);
        x.undo();
        due("33: undo the night", x.count(4), 0);
        x.undo();
        due("33: undo the knot", x.count(0), 0);
        x.tie(7, 0, 1, 0);
        x.from(0);
        due("33: an image stays as it was kept", x.count(0), 1);
        x.clear();
        x.type('a');
        x.odds(8, 5);
        due("33: all but text and fraction", x.digest(), digest);
        due("33: the other", x.from(1), 1);
        due("33: its rain", x.count(1), 0);
        due("33: its undo", x.count(6), 0);
        due("32: image 2", x.image(2), NetLaw.BAD);
        due("32: image -1", x.image(-1), NetLaw.BAD);
        due("33: from 2", x.from(2), NetLaw.BAD);
        due("33: from -1", x.from(-1), NetLaw.BAD);
        due("33: STATUS stays", x.status(0), 4);
    }

    private static void status() {
        NetLaw x = new NetLaw();
        due("34: another what", x.status(3), -1);
        due("34: counts as BAD", x.status(0), 1);
        due("34: what -1", x.status(-1), -1);
        x.rain(2);
        x.count(8);
        x.part(2);
        x.least(9, 9, 9);
        x.stood(16, 0, 0);
        x.menders(1, 1, 1, 1);
        due("34: BAD", x.status(0), 8);
        x.undo();
        x.mend(0, 1);
        x.drop(0);
        x.precedent(0);
        x.from(1);
        x.tie(0, 0, 1, 0);
        x.stood(0, 0, 0);
        due("34: NO", x.status(1), 6);
        for (int i = 0; i < 8; i++) {
            x.reading(1, 0, 1);
        }
        due("34: FULL", x.status(2), 2);
        x.holdsAll(0);
        x.dropped(0);
        x.least(0, 1, -1);
        x.fish(0);
        x.read();
        x.forget();
        x.reading(1, 0, 30);
        x.tries();
        due("34: NONE, -5, a FAULT are no refusals", x.status(0) + x.status(1) + x.status(2), 16);
        x.net(0, 0);
        due("34: it stays", x.status(0), 8);
    }

    private static void count() {
        NetLaw x = new NetLaw();
        x.net(1, 30);
        x.tie(1, 0, 2, 0);
        x.tie(2, 0, 2, 0);
        x.tie(2, 0, 3, 0);
        x.hands(6);
        x.night();
        x.night();
        x.reading(1, 0, 1);
        x.type(1);
        x.type(2);
        int[] want = {1, 1, 30, 6, 2, 1, 5, 2};
        for (int what = 0; what < 8; what++) {
            due("35: count(" + what + ")", x.count(what), want[what]);
        }
        due("35: what 8", x.count(8), NetLaw.BAD);
        due("35: what -1", x.count(-1), NetLaw.BAD);
    }

    private static void digest() {
        NetLaw x = new NetLaw();
        x.net(1, 30);
        x.tie(6, 5, 8, 2);
        x.wide(5, 17);
        x.reading(9, 1, 8);
        x.reading(3, 0, 29);
        x.type(65);
        x.wide(0, 0);
        x.odds(0, 7);
        long h = 1087;
        for (int v : new int[] {1, 1, 30, 0, 0, 2, 1, 1}) {
            h = 31 * h + v;
        }
        for (int k = 0; k < 16; k++) {
            h = 31 * h + (k == 6 ? 5 : 0);
            h = 31 * h + (k == 6 ? 8 : 0);
            h = 31 * h + (k == 6 ? 2 : 0);
        }
        for (int c = 0; c < 9; c++) {
            h = 31 * h + (c == 5 ? 17 : c == 0 ? 0 : 9);
        }
        for (int v : new int[] {9, 1, 8, 3, 0, 29, 1, 1}) {
            h = 31 * h + v;
        }
        due("36: digest", x.digest(), h);
        due("36: it changes nothing", x.digest(), h);
        x.image(0);
        x.status(9);
        due("36: images, STATUS are none of it", x.digest(), h);
    }

    private static void wrongNumbers() {
        NetLaw x = new NetLaw();
        x.tie(0, 5, 9, 1);
        long digest = x.digest();
        for (int n : WRONG) {
            due("net", x.net(n, 0), NetLaw.BAD);
            due("rain", x.rain(n), NetLaw.BAD);
            due("twine", x.twine(n), NetLaw.BAD);
            due("hands", x.hands(n), NetLaw.BAD);
            due("wide", x.wide(n, n), NetLaw.BAD);
            due("tie", x.tie(n, 0, 1, 0), NetLaw.BAD);
            due("mend", x.mend(0, n), NetLaw.BAD);
            due("drop", x.drop(n), NetLaw.BAD);
            due("type", x.type(n), NetLaw.BAD);
            due("of", x.of(0, n), NetLaw.BAD);
            due("clause", x.clause(n, 0), NetLaw.BAD);
            due("holdsAll", x.holdsAll(n), NetLaw.BAD);
            due("dropped", x.dropped(n), NetLaw.BAD);
            due("least", x.least(n, 0, 0), -10);
            due("fish", x.fish(n), NetLaw.BAD);
            due("precedent", x.precedent(n), NetLaw.BAD);
            due("reading", x.reading(n, 0, 0), NetLaw.BAD);
            due("stood", x.stood(1, n, 0), -10);
            due("menders", x.menders(0, 1, n, 0), -10);
            due("odds", x.odds(0, n), NetLaw.BAD);
            due("drawn", x.drawn(n, 0), NetLaw.BAD);
            due("part", x.part(n), NetLaw.BAD);
            due("image", x.image(n), NetLaw.BAD);
            due("from", x.from(n), NetLaw.BAD);
            due("status", x.status(n), -1);
            due("count", x.count(n), NetLaw.BAD);
        }
        due("each counts", x.status(0), 26 * WRONG.length);
        due("nothing else changes", x.digest(), digest);
    }
}
