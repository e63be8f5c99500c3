import java.util.Random;

/** Runs of calls drawn by fixed seeds, each answer and each digest against the slow model. */
public final class ModelTest {
    private static final int RUNS = 600, CALLS = 512, NEAR_RUNS = 300, NEAR_ASKED = 12;
    private static final int[] EDGES = {-1, -2, 16, 9, 30, 31, 100, 511, 512, 65535, 65536,
        Integer.MAX_VALUE, Integer.MIN_VALUE, 1000000};
    private static final String[] WORDS = {"net", "knot", "wide", "rope", "ne", ";", " ", "  ", "7", "30", "123", "A", "-"};

    private static Random random;
    private static NetLaw law;
    private static Model model;
    private static boolean wild;

    public static void main(String[] args) {
        for (int run = 0; run < RUNS; run++) {
            random = new Random(run);
            law = new NetLaw();
            model = new Model();
            wild = run % 3 == 0;
            if (run % 2 == 0) {
                fillNet(run);
            }
            for (int i = 0; i < CALLS - 80; i++) {
                call("run " + run + ", call " + i + ": ", random.nextInt(38));
                Due.due("run " + run + ", call " + i + ": digest", law.digest(), model.digest());
            }
            for (int what = 0; what < 3; what++) {
                Due.due("run " + run + ": status(" + what + ")", law.status(what), model.status(what));
            }
        }
        for (int run = 0; run < NEAR_RUNS; run++) {
            askNear("near run " + run + ": ", run);
        }
        Due.end("ModelTest");
    }

    /** Nets whose clauses are nearly, or just, as wide as they hold: there the dear questions have most to weigh. */
    private static void askNear(String at, int run) {
        random = new Random(1000003L + run);
        law = new NetLaw();
        model = new Model();
        int strongest = new int[] {2, 4, 6, 9}[random.nextInt(4)];
        int rain = random.nextInt(2);
        due(at, "rain", law.rain(rain), model.rain(rain), rain);
        for (int k = 0; k < 16; k++) {
            int kind = random.nextInt(3) == 0 ? 5 : random.nextInt(6);
            int s = 1 + random.nextInt(strongest);
            if (random.nextInt(8) > 0) {
                due(at, "tie", law.tie(k, kind, s, 0), model.tie(k, kind, s, 0), k, kind, s, 0);
            }
        }
        for (int c = 0; c < 9; c++) {
            int wide = Math.max(0, Math.min(30, model.clause(c, 1) + random.nextInt(16) - 6));
            due(at, "clause", law.clause(c, 1), model.clause(c, 1), c, 1);
            due(at, "wide", law.wide(c, wide), model.wide(c, wide), c, wide);
        }
        for (int i = 0; i < NEAR_ASKED; i++) {
            askOfTwo(at, random.nextInt(9), random.nextInt(9), 1 + random.nextInt(5));
        }
    }

    private static void askOfTwo(String at, int a, int b, int m) {
        for (int k = -1; k < 16; k++) {
            due(at, "least", law.least(a, b, k), model.least(a, b, k), a, b, k);
        }
        for (int what = 0; what < 2; what++) {
            due(at, "menders", law.menders(a, b, m, what), model.menders(a, b, m, what), a, b, m, what);
            due(at, "holdsAll", law.holdsAll(what), model.holdsAll(what), what);
        }
        due(at, "dropped", law.dropped(a), model.dropped(a), a);
        due(at, "odds", law.odds(b, m), model.odds(b, m), b, m);
        due(at, "digest", law.digest(), model.digest());
    }

    private static void fillNet(int run) {
        for (int k = 0; k < 16; k++) {
            int kind = random.nextInt(6);
            int s = 1 + random.nextInt(9);
            Due.due("run " + run + ": tie", law.tie(k, kind, s, k % 3), model.tie(k, kind, s, k % 3));
        }
        for (int c = 0; c < 9; c++) {
            int n = random.nextInt(31);
            Due.due("run " + run + ": wide", law.wide(c, n), model.wide(c, n));
        }
    }

    /** A number from low to high; one in many is at an edge or far off. */
    private static int pick(int low, int high) {
        if (random.nextInt(wild ? 8 : 40) == 0) {
            return random.nextBoolean() ? high + 1 : random.nextBoolean() ? low - 1 : EDGES[random.nextInt(EDGES.length)];
        }
        return low + random.nextInt(high - low + 1);
    }

    private static void due(String at, String name, long got, long want, int... with) {
        Due.due(at + name + java.util.Arrays.toString(with), got, want);
    }

    private static void call(String at, int which) {
        if (which < 19) {
            callNet(at, which);
        } else {
            callRest(at, which);
        }
    }

    private static void callNet(String at, int which) {
        int a;
        int b;
        int c;
        int d;
        switch (which) {
            case 0:
                if (random.nextInt(6) == 0) {
                    a = pick(0, 1);
                    b = pick(0, 99);
                    due(at, "net", law.net(a, b), model.net(a, b), a, b);
                }
                break;
            case 1: a = pick(0, 1); due(at, "rain", law.rain(a), model.rain(a), a); break;
            case 2: a = pick(0, 99); due(at, "twine", law.twine(a), model.twine(a), a); break;
            case 3: a = pick(0, 65535); due(at, "hands", law.hands(a), model.hands(a), a); break;
            case 4: case 5:
                a = pick(0, 8);
                b = pick(0, 30);
                due(at, "wide", law.wide(a, b), model.wide(a, b), a, b);
                break;
            case 6: case 7: case 8: case 9:
                a = pick(0, 15);
                b = pick(0, 5);
                c = pick(1, 9);
                d = pick(0, 2);
                due(at, "tie", law.tie(a, b, c, d), model.tie(a, b, c, d), a, b, c, d);
                break;
            case 10: a = pick(0, 15); b = pick(1, 9); due(at, "mend", law.mend(a, b), model.mend(a, b), a, b); break;
            case 11: a = pick(0, 15); due(at, "drop", law.drop(a), model.drop(a), a); break;
            case 12: due(at, "night", law.night(), model.night()); break;
            case 13: due(at, "undo", law.undo(), model.undo()); break;
            case 14: a = pick(0, 127); due(at, "type", law.type(a), model.type(a), a); break;
            case 15: due(at, "clear", law.clear(), model.clear()); break;
            case 16: readText(at); break;
            case 17: a = pick(0, 15); b = pick(0, 4); due(at, "of", law.of(a, b), model.of(a, b), a, b); break;
            default: a = pick(0, 8); b = pick(0, 2); due(at, "clause", law.clause(a, b), model.clause(a, b), a, b); break;
        }
    }

    private static void callRest(String at, int which) {
        int a;
        int b;
        int c;
        int d;
        switch (which) {
            case 19: due(at, "laws", law.laws(), model.laws()); break;
            case 20: a = pick(0, 1); due(at, "holdsAll", law.holdsAll(a), model.holdsAll(a), a); break;
            case 21: a = pick(0, 8); due(at, "dropped", law.dropped(a), model.dropped(a), a); break;
            case 22: case 23:
                a = pick(0, 8);
                b = pick(0, 8);
                for (c = -1; c < 16; c++) {
                    due(at, "least", law.least(a, b, c), model.least(a, b, c), a, b, c);
                }
                break;
            case 24: a = pick(0, 1); due(at, "fish", law.fish(a), model.fish(a), a); break;
            case 25: a = pick(0, 1); due(at, "precedent", law.precedent(a), model.precedent(a), a); break;
            case 26: readingThatFits(at); break;
            case 27: due(at, "forget", law.forget(), model.forget()); break;
            case 28: due(at, "may", law.may(), model.may()); due(at, "tries", law.tries(), model.tries()); break;
            case 29: stoodIn(at); break;
            case 30: case 31:
                a = pick(0, 8);
                b = pick(0, 8);
                c = pick(1, 9);
                d = pick(0, 1);
                due(at, "menders", law.menders(a, b, c, d), model.menders(a, b, c, d), a, b, c, d);
                break;
            case 32: a = pick(0, 8); b = pick(0, 10); due(at, "odds", law.odds(a, b), model.odds(a, b), a, b); break;
            case 33: a = pick(0, 999999); b = pick(0, 30); due(at, "drawn", law.drawn(a, b), model.drawn(a, b), a, b); break;
            case 34: a = pick(0, 1); due(at, "part", law.part(a), model.part(a), a); break;
            case 35: a = pick(0, 1); due(at, "image", law.image(a), model.image(a), a); break;
            case 36: a = pick(0, 1); due(at, "from", law.from(a), model.from(a), a); break;
            default:
                a = pick(0, 7);
                due(at, "count", law.count(a), model.count(a), a);
                b = pick(0, 2);
                due(at, "status", law.status(b), model.status(b), b);
                break;
        }
    }

    private static void readingThatFits(String at) {
        int s = pick(1, 9);
        int r = pick(0, 1);
        int v = random.nextBoolean() ? pick(0, 30) : new int[] {s, s - 1, 2 * s, 2 * s - 2, (s + 1) / 2, 2 * s + 3}[random.nextInt(6)];
        due(at, "reading", law.reading(s, r, v), model.reading(s, r, v), s, r, v);
    }

    private static void stoodIn(String at) {
        int k = pick(0, 15);
        if (law.of(k, 1) > 0 && random.nextInt(3) > 0) {
            due(at, "drop", law.drop(k), model.drop(k), k);
        } else {
            model.of(k, 1);
        }
        int row = k / 4;
        int column = k % 4;
        int clauses = 0;
        for (int c = 0; c < 9; c++) {
            boolean around = row - c / 3 >= 0 && row - c / 3 <= 1 && column - c % 3 >= 0 && column - c % 3 <= 1;
            clauses |= around && random.nextInt(3) > 0 ? 1 << c : 0;
        }
        clauses = random.nextInt(12) == 0 ? pick(0, 511) : random.nextInt(4) == 0 ? 0 : clauses;
        for (int what = 0; what < 2; what++) {
            due(at, "stood", law.stood(k, clauses, what), model.stood(k, clauses, what), k, clauses, what);
        }
    }

    /** A text that is mostly a net, sometimes with a token put in, taken out, or a byte changed. */
    private static void readText(String at) {
        StringBuilder b = new StringBuilder();
        b.append("net ").append(random.nextInt(20) == 0 ? 2 : random.nextInt(2)).append(' ').append(random.nextInt(100)).append(';');
        int items = random.nextInt(12);
        for (int i = 0; i < items; i++) {
            b.append(random.nextInt(3) == 0 ? " " : "");
            if (random.nextBoolean()) {
                b.append("wide ").append(few(8)).append(' ').append(few(30)).append(';');
            } else {
                b.append("knot").append(random.nextBoolean() ? " " : "").append(few(15)).append(' ').append(few(5))
                        .append(' ').append(1 + few(8)).append("  ").append(few(2)).append(" ;");
            }
        }
        if (random.nextBoolean()) {
            int place = random.nextInt(b.length());
            switch (random.nextInt(4)) {
                case 0: b.insert(place, WORDS[random.nextInt(WORDS.length)]); break;
                case 1: b.deleteCharAt(place); break;
                case 2: b.setCharAt(place, (char) random.nextInt(128)); break;
                default: b.setLength(place); break;
            }
        }
        due(at, "clear", law.clear(), model.clear());
        for (int i = 0; i < b.length() && i < 155; i++) {
            due(at, "type", law.type(b.charAt(i)), model.type(b.charAt(i)), b.charAt(i));
        }
        Due.due(at + "read of '" + b + "'", law.read(), model.read());
    }

    private static int few(int high) {
        return random.nextInt(60) == 0 ? high + 1 : random.nextInt(high + 1);
    }
}
