/** What several tests tell a net. */
final class Nets {
    /** For each knot the clauses that have it at a corner, as bits. */
    static final int[] AROUND = {1, 3, 6, 4, 9, 27, 54, 36, 72, 216, 432, 288, 64, 192, 384, 256};

    private Nets() {
    }

    static void wideAll(NetLaw x, int n) {
        for (int c = 0; c < 9; c++) {
            x.wide(c, n);
        }
    }

    static void tieAll(NetLaw x, int kind, int strength, int... knots) {
        for (int k : knots) {
            x.tie(k, kind, strength, 0);
        }
    }

    /** A new object with these readings: strength, rain and what was held, three by three. */
    static NetLaw withReadings(int... numbers) {
        NetLaw x = new NetLaw();
        for (int i = 0; i < numbers.length; i += 3) {
            x.reading(numbers[i], numbers[i + 1], numbers[i + 2]);
        }
        return x;
    }
}
