import java.util.ArrayList;
import java.util.List;

/** The bounds of IMAGES, of what there is to count, and of the digest. */
public final class ImageBoundsTest {
    public static void main(String[] args) {
        keptOrNot();
        eachByItself();
        keptAnew();
        keepsUndo();
        keepsReadings();
        leavesTheRest();
        stayThrough();
        countsAtTheirBounds();
        digestOfNothing();
        digestOfMost();
        digestOfEachPlace();
        Due.end("ImageBoundsTest");
    }

    private static void due(String what, long got, long want) {
        Due.due(what, got, want);
    }

    private static void keptOrNot() {
        Due.sentence("32, An IMAGE is kept: 1; 33, It goes on from an IMAGE: 1 .. NO: none was kept");
        for (int i = 0; i < 2; i++) {
            NetLaw x = new NetLaw();
            due("from " + i, x.from(i), NetLaw.NO);
            due("image " + i, x.image(i), 1);
            due("from " + i + " now", x.from(i), 1);
            due("and again", x.from(i), 1);
            due("the other", x.from(1 - i), NetLaw.NO);
        }
        Due.sentence("33, It goes on from an IMAGE of a new object");
        NetLaw x = new NetLaw();
        long atFirst = x.digest();
        x.image(1);
        x.tie(15, 5, 9, 2);
        x.twine(99);
        x.hands(65535);
        x.night();
        x.wide(8, 30);
        x.reading(9, 1, 30);
        x.rain(1);
        due("from 1", x.from(1), 1);
        due("as at first", x.digest(), atFirst);
        due("nothing to undo", x.undo(), NetLaw.NO);
    }

    private static void eachByItself() {
        Due.sentence("IMAGES 0, 1 keep all but them");
        NetLaw x = new NetLaw();
        x.tie(0, 1, 1, 1);
        x.image(0);
        x.tie(0, 2, 2, 2);
        x.image(1);
        x.from(0);
        due("0 has 1", x.of(0, 1), 1);
        x.from(1);
        due("1 has 2", x.of(0, 1), 2);
        x.from(0);
        due("0 has 1 still", x.of(0, 1), 1);
        x.image(1);
        x.drop(0);
        x.from(1);
        due("1 has 1 now", x.of(0, 1), 1);
    }

    private static void keptAnew() {
        Due.sentence("32, An IMAGE is kept (in place of what was kept)");
        NetLaw x = new NetLaw();
        for (int s = 1; s <= 9; s++) {
            x.tie(0, 0, s, 0);
            due("image", x.image(0), 1);
        }
        x.net(0, 0);
        x.from(0);
        due("the last one", x.of(0, 1), 9);
        due("8 may be undone", x.count(6), 8);
        x.net(0, 0);
        x.image(0);
        x.tie(0, 0, 9, 0);
        x.from(0);
        due("an empty one over a full one", x.count(0), 0);
        due("nothing to undo in it", x.count(6), 0);
        due("so none may be", x.undo(), NetLaw.NO);
    }

    private static void keepsUndo() {
        Due.sentence("what may be undone they keep; it goes on from one");
        for (int acts = 0; acts <= 9; acts++) {
            NetLaw x = new NetLaw();
            for (int i = 1; i <= acts; i++) {
                x.twine(i);
                x.tie(0, 0, i, 0);
            }
            x.image(1);
            x.net(1, 50);
            for (int i = 0; i < 8; i++) {
                x.night();
            }
            x.from(1);
            int may = Math.min(8, acts);
            due(acts + " acts", x.count(6), may);
            for (int i = acts; i > acts - may; i--) {
                due("undo of " + i, x.undo(), i);
                due("strength ahead of " + i, x.of(0, 1), i - 1);
            }
            due("no more", x.undo(), NetLaw.NO);
            due("from it again", x.from(1), 1);
            due("as many again", x.count(6), may);
        }
    }

    private static void keepsReadings() {
        Due.sentence("IMAGES 0, 1 keep all (READINGS, none and as many as there may be)");
        for (int many = 0; many <= 6; many++) {
            NetLaw x = new NetLaw();
            for (int i = 0; i < many; i++) {
                x.reading(1, 0, 2);
            }
            x.image(0);
            x.forget();
            for (int i = 0; i < 6; i++) {
                x.reading(9, 0, 21);
            }
            x.from(0);
            due(many + " READINGS", x.count(5), many);
            due("MAY by them", x.may(), many == 0 ? 63 : 4);
            due("one more", x.reading(1, 0, 2), many < 6 ? many + 1 : NetLaw.FULL);
            due("MAY by them and it", x.may(), 4);
        }
        NetLaw x = new NetLaw();
        x.reading(9, 1, 8);
        x.image(0);
        x.forget();
        x.reading(2, 0, 7);
        x.from(0);
        due("STRENGTH, RAIN and v of one", x.digest(), told(x, 9, 1, 8));
        due("MAY by it", x.may(), 33);
    }

    private static void leavesTheRest() {
        Due.sentence("IMAGES .. keep all but them, THE TEXT, THE FRACTION and STATUS");
        NetLaw x = new NetLaw();
        x.image(0);
        Due.typeAll(x, "net 1 7;");
        x.wide(0, 0);
        x.odds(0, 5);
        x.rain(2);
        x.undo();
        x.image(1);
        x.from(0);
        due("THE TEXT", x.count(7), 8);
        due("above", x.part(0), 1);
        due("STATUS, BAD", x.status(0), 1);
        due("STATUS, NO", x.status(1), 1);
        due("WIDE is kept, so it is 9", x.clause(0, 0), 9);
        due("the other IMAGE", x.from(1), 1);
        due("its WIDE", x.clause(0, 0), 0);
        due("THE TEXT is read", x.read(), 1);
        due("TWINE", x.count(2), 7);
    }

    private static void stayThrough() {
        Due.sentence("2, all else as at first (but for IMAGES ..)");
        NetLaw x = new NetLaw();
        x.tie(15, 5, 9, 2);
        x.rain(1);
        x.image(0);
        x.net(0, 0);
        due("kept through net", x.from(0), 1);
        due("with its knot", x.of(15, 1), 9);
        x.undo();
        due("kept through undo", x.from(0), 1);
        due("with its knot", x.of(15, 1), 9);
        Due.typeAll(x, "net 0 0;");
        x.read();
        due("kept through read", x.from(0), 1);
        due("with its RAIN", x.count(1), 1);
        x.tie(15, 0, 1, 0);
        x.hands(65535);
        x.night();
        due("kept through acts", x.from(0), 1);
        due("with its KIND", x.of(15, 0), 5);
    }

    private static void countsAtTheirBounds() {
        Due.sentence("35, How many");
        NetLaw x = new NetLaw();
        for (int what = 0; what < 8; what++) {
            due("least of " + what, x.count(what), 0);
        }
        for (int k = 0; k < 16; k++) {
            x.tie(k, 0, 1, 0);
            due("KNOTS that are no HOLES", x.count(0), k + 1);
        }
        x.rain(1);
        x.twine(99);
        x.hands(65535);
        for (int i = 0; i < 6; i++) {
            x.reading(1, 0, 1);
        }
        for (int i = 0; i < 150; i++) {
            x.type(127);
        }
        int[] most = {16, 1, 99, 65535, 0, 6, 8, 150};
        for (int what = 0; what < 8; what++) {
            due("most of " + what, x.count(what), most[what]);
        }
        x.night();
        due("all rotted", x.count(0), 0);
        due("a NIGHT", x.count(4), 1);
    }

    /** The digest of what the other calls tell, and of the readings that were given. */
    private static long told(NetLaw x, int... readings) {
        List<Long> all = new ArrayList<>();
        for (int what = 0; what < 8; what++) {
            all.add((long) x.count(what));
        }
        for (int k = 0; k < 16; k++) {
            for (int what = 0; what < 3; what++) {
                all.add((long) x.of(k, what));
            }
        }
        for (int c = 0; c < 9; c++) {
            all.add((long) x.clause(c, 0));
        }
        for (int v : readings) {
            all.add((long) v);
        }
        all.add(x.part(0));
        all.add(x.part(1));
        long h = 1087;
        for (long v : all) {
            h = 31 * h + v;
        }
        return h;
    }

    private static void digestOfNothing() {
        Due.sentence("36, h = 1087; then h = 31 h + v for each v");
        NetLaw x = new NetLaw();
        due("a new object", x.digest(), told(x));
        x.tie(0, 0, 1, 0);
        x.undo();
        due("all undone", x.digest(), told(new NetLaw()));
    }

    private static void digestOfMost() {
        Due.sentence("36, .. (long, with Java's wrap-around)");
        NetLaw x = new NetLaw();
        for (int k = 0; k < 16; k++) {
            x.tie(k, 5, 9, 2);
        }
        for (int c = 0; c < 9; c++) {
            x.wide(c, 30);
        }
        int[] readings = new int[18];
        for (int i = 0; i < 6; i++) {
            x.reading(9 - i, i % 2, 30 - i);
            readings[3 * i] = 9 - i;
            readings[3 * i + 1] = i % 2;
            readings[3 * i + 2] = 30 - i;
        }
        x.rain(1);
        x.twine(99);
        x.hands(65535);
        x.wide(8, 24);
        x.odds(8, 1);
        due("the most of all", x.digest(), told(x, readings));
        x.forget();
        due("without READINGS", x.digest(), told(x));
    }

    private static void digestOfEachPlace() {
        Due.sentence("36, count(0) to count(7); of KNOTS KIND, STRENGTH, VILLAGE; how WIDE CLAUSES are; of READINGS ..; THE FRACTION");
        NetLaw x = new NetLaw();
        long last = x.digest();
        Runnable[] changes = {
            () -> x.rain(1), () -> x.twine(1), () -> x.hands(1), () -> x.night(), () -> x.reading(1, 0, 1),
            () -> x.type(0), () -> x.tie(0, 0, 1, 0), () -> x.tie(15, 0, 1, 0), () -> x.tie(15, 1, 1, 0),
            () -> x.tie(15, 1, 2, 0), () -> x.tie(15, 1, 2, 1), () -> x.wide(0, 0), () -> x.wide(8, 30),
            () -> x.odds(0, 0), () -> x.undo(), () -> x.forget(), () -> x.clear(), () -> x.net(0, 0),
        };
        for (int i = 0; i < changes.length; i++) {
            changes[i].run();
            long now = x.digest();
            due("change " + i + " shows", now == last ? 1 : 0, 0);
            last = now;
        }
        Due.sentence("36, IMAGES and STATUS are none of it");
        x.image(1);
        x.rain(2);
        x.drop(0);
        due("kept and refused", x.digest(), last);
    }
}
