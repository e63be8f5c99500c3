import java.util.function.Supplier;
import java.util.function.ToLongFunction;

/** What is refused as NO and as FULL, just at the bound and just inside it; which reason comes first; STATUS. */
public final class RefusalBoundsTest {
    public static void main(String[] args) {
        mendNo();
        dropNo();
        undoNo();
        precedentNo();
        stoodNo();
        fromNo();
        typeFull();
        readingFull();
        badAheadOfNo();
        badAheadOfFull();
        statusCounts();
        statusStays();
        notRefused();
        onlyTells();
        Due.end("RefusalBoundsTest");
    }

    private static void due(String what, long got, long want) {
        Due.due(what, got, want);
    }

    private static void no(String what, Supplier<NetLaw> maker, ToLongFunction<NetLaw> call) {
        Twins.refused(what, maker, call, NetLaw.NO, Twins.AS_NO);
    }

    private static void full(String what, Supplier<NetLaw> maker, ToLongFunction<NetLaw> call) {
        Twins.refused(what, maker, call, NetLaw.FULL, Twins.AS_FULL);
    }

    private static void bad(String what, Supplier<NetLaw> maker, ToLongFunction<NetLaw> call) {
        Twins.refused(what, maker, call, NetLaw.BAD, Twins.AS_BAD);
    }

    /** The rich object, with so much twine and a reef of so much strength at knot 3. */
    private static NetLaw withReef(int twine, int strength) {
        NetLaw x = Twins.rich();
        x.tie(3, 0, strength, 2);
        x.twine(twine);
        return x;
    }

    private static void mendNo() {
        Due.sentence("8, NO: a HOLE");
        no("a hole at first", Twins::rich, x -> x.mend(2, 1));
        no("one that was dropped", Twins::rich, x -> x.mend(6, 1));
        no("one that rotted", Twins::rich, x -> x.mend(5, 1));
        due("a strength of 1 is none", withReef(99, 1).mend(3, 1), 2);
        Due.sentence("8, NO: beyond 9");
        for (int s = 1; s <= 9; s++) {
            int strength = s;
            if (s < 9) {
                NetLaw x = withReef(99, s);
                due("from " + s + " to 9", x.mend(3, 9 - s), 9);
                due("it has 9", x.of(3, 1), 9);
                due("the twine that it took", x.count(2), 99 - (9 - s));
            }
            if (s < 8) {
                due("from " + s + " to 8", withReef(99, s).mend(3, 8 - s), 8);
            }
            no("from " + s + " to 10", () -> withReef(99, strength), x -> x.mend(3, 10 - strength));
            no("from " + s + " by 9", () -> withReef(99, strength), x -> x.mend(3, 9));
        }
        Due.sentence("8, NO: there is less TWINE");
        for (int n = 1; n <= 8; n++) {
            int by = n;
            NetLaw more = withReef(n + 1, 1);
            due("by " + n + " of one more", more.mend(3, n), n + 1);
            due("1 is left", more.count(2), 1);
            NetLaw all = withReef(n, 1);
            due("by all the " + n, all.mend(3, n), n + 1);
            due("none is left", all.count(2), 0);
            no("by " + n + " of one less", () -> withReef(by - 1, 1), x -> x.mend(3, by));
        }
        no("no twine at first", RefusalBoundsTest::oneKnot, x -> x.mend(0, 1));
    }

    private static NetLaw oneKnot() {
        NetLaw x = new NetLaw();
        x.tie(0, 0, 1, 0);
        return x;
    }

    private static void dropNo() {
        Due.sentence("9, STRENGTH that it had. .. NO: a HOLE");
        no("a hole at first", Twins::rich, x -> x.drop(2));
        no("one that was dropped", Twins::rich, x -> x.drop(6));
        no("one that rotted", Twins::rich, x -> x.drop(5));
        for (int k = 0; k < 16; k++) {
            int knot = k;
            no("knot " + k + " of a new net", NetLaw::new, x -> x.drop(knot));
            NetLaw x = new NetLaw();
            for (int s : new int[] {1, 2, 8, 9}) {
                x.tie(k, 0, s, 0);
                due("knot " + k + " of strength " + s, x.drop(k), s);
                due("then a hole", x.of(k, 1), 0);
            }
        }
    }

    private static void undoNo() {
        Due.sentence("11, NO: none may be");
        no("a new object", NetLaw::new, x -> x.undo());
        no("behind net", () -> after(x -> x.net(0, 3)), x -> x.undo());
        no("behind a net that was read", () -> after(x -> x.read()), x -> x.undo());
        no("behind the last undo", () -> after(x -> undoTimes(x, 8)), x -> x.undo());
        due("the last that may be", after(x -> undoTimes(x, 7)).undo(), 40);
        NetLaw one = oneKnot();
        due("just one may be", one.undo(), 0);
        due("and no more", one.undo(), NetLaw.NO);
    }

    private static NetLaw after(ToLongFunction<NetLaw> call) {
        NetLaw x = Twins.rich();
        call.applyAsLong(x);
        return x;
    }

    private static int undoTimes(NetLaw x, int times) {
        int last = 0;
        for (int i = 0; i < times; i++) {
            last = x.undo();
        }
        return last;
    }

    private static void precedentNo() {
        Due.sentence("22, NO: none was kept");
        no("image 1", Twins::rich, x -> x.precedent(1));
        no("image 0 of a new object", NetLaw::new, x -> x.precedent(0));
        NetLaw x = Twins.rich();
        due("image 0 was", x.precedent(0) >= 0 ? 1 : 0, 1);
        x.image(1);
        due("image 1 now", x.precedent(1), x.laws());
    }

    private static void stoodNo() {
        Due.sentence("27, NO: no HOLE: -20");
        for (int k : new int[] {0, 15}) {
            for (int strength : new int[] {1, 9}) {
                Twins.refused("knot " + k + " of strength " + strength, () -> tiedAt(k, strength),
                        x -> x.stood(k, 0, 0), -20, Twins.AS_NO);
                Twins.refused("knot " + k + ", the first", () -> tiedAt(k, strength),
                        x -> x.stood(k, 0, 1), -20, Twins.AS_NO);
            }
            NetLaw x = tiedAt(k, 1);
            x.drop(k);
            due("knot " + k + ", dropped", x.stood(k, 0, 0), 39);
            due("it is not refused", x.status(1), 0);
        }
    }

    private static NetLaw tiedAt(int knot, int strength) {
        NetLaw x = new NetLaw();
        x.tie(knot, 0, strength, 0);
        return x;
    }

    private static void fromNo() {
        Due.sentence("33, NO: none was kept");
        no("image 1", Twins::rich, x -> x.from(1));
        no("image 0 of a new object", NetLaw::new, x -> x.from(0));
        NetLaw x = new NetLaw();
        x.image(1);
        due("image 0 was not", x.from(0), NetLaw.NO);
        due("image 1 was", x.from(1), 1);
        x.image(0);
        due("image 0 now", x.from(0), 1);
    }

    private static NetLaw typed(int bytes) {
        NetLaw x = Twins.rich();
        for (int i = x.count(7); i < bytes; i++) {
            x.type(' ');
        }
        return x;
    }

    private static void typeFull() {
        Due.sentence("12, FULL: 150");
        due("the 149th", typed(148).type(';'), 149);
        due("the 150th", typed(149).type(';'), 150);
        full("the 151st", () -> typed(150), x -> x.type(';'));
        full("byte 0", () -> typed(150), x -> x.type(0));
        full("byte 127", () -> typed(150), x -> x.type(127));
        NetLaw x = typed(150);
        x.type(';');
        due("cleared", x.clear(), 150);
        due("the first again", x.type(';'), 1);
    }

    private static NetLaw withReadings(int count) {
        NetLaw x = Twins.rich();
        for (int i = x.count(5); i < count; i++) {
            x.reading(9, 0, 9);
        }
        return x;
    }

    private static void readingFull() {
        Due.sentence("23, FULL: 6");
        due("the fifth", withReadings(4).reading(1, 0, 1), 5);
        due("the sixth", withReadings(5).reading(1, 0, 1), 6);
        full("the seventh", () -> withReadings(6), x -> x.reading(1, 0, 1));
        full("the seventh, of none", () -> withReadings(6), x -> x.reading(9, 1, 30));
        NetLaw x = withReadings(6);
        x.reading(1, 0, 1);
        due("forgotten", x.forget(), 6);
        due("the first again", x.reading(1, 0, 1), 1);
    }

    private static void badAheadOfNo() {
        Due.sentence("the first of: BAD .. NO");
        bad("a hole, by 0", Twins::rich, x -> x.mend(2, 0));
        bad("a hole, by 10", Twins::rich, x -> x.mend(2, 10));
        bad("a knot of 9, by 10", () -> withReef(99, 9), x -> x.mend(3, 10));
        bad("no twine, by 10", () -> withReef(0, 1), x -> x.mend(3, 10));
        bad("no knot", NetLaw::new, x -> x.mend(16, 1));
        bad("no knot to drop", NetLaw::new, x -> x.drop(16));
        bad("no image to go on from", NetLaw::new, x -> x.from(2));
        bad("no image of a precedent", NetLaw::new, x -> x.precedent(-1));
        Twins.refused("no hole, what 2", Twins::rich, x -> x.stood(0, 1, 2), -10, Twins.AS_BAD);
        Twins.refused("no hole, clauses that have it not", Twins::rich, x -> x.stood(0, 2, 0), -10, Twins.AS_BAD);
        Twins.refused("no hole, as told", Twins::rich, x -> x.stood(0, 1, 0), -20, Twins.AS_NO);
    }

    private static void badAheadOfFull() {
        Due.sentence("the first of: BAD .. FULL");
        bad("byte 128 behind 150", () -> typed(150), x -> x.type(128));
        bad("byte -1 behind 150", () -> typed(150), x -> x.type(-1));
        bad("a strength of 0 behind 6", () -> withReadings(6), x -> x.reading(0, 0, 0));
        bad("rain 2 behind 6", () -> withReadings(6), x -> x.reading(1, 2, 0));
        bad("v 31 behind 6", () -> withReadings(6), x -> x.reading(1, 0, 31));
    }

    private static void statusCounts() {
        Due.sentence("STATUS: how many calls were refused as BAD, NO, FULL");
        NetLaw x = new NetLaw();
        for (int i = 0; i < 6; i++) {
            x.reading(1, 0, 1);
        }
        for (int what = 0; what < 3; what++) {
            due("none so far of " + what, x.status(what), 0);
        }
        for (int i = 1; i <= 10; i++) {
            x.rain(-1);
            due("BAD", x.status(0), 3 * i - 2);
            x.least(-1, 0, 0);
            due("BAD by -10", x.status(0), 3 * i - 1);
            due("another what", x.status(i % 2 == 0 ? -1 : 3), -1);
            due("BAD by -1", x.status(0), 3 * i);
            x.undo();
            due("NO", x.status(1), 2 * i - 1);
            x.tie(0, 0, 1, 0);
            x.stood(0, 0, 0);
            x.net(0, 0);
            due("NO by -20", x.status(1), 2 * i);
            fillReadings(x);
            x.reading(1, 0, 1);
            due("FULL", x.status(2), i);
        }
    }

    private static void fillReadings(NetLaw x) {
        while (x.count(5) < 6) {
            x.reading(1, 0, 1);
        }
    }

    private static void statusStays() {
        Due.sentence("IMAGES 0, 1 keep all but them, THE TEXT, THE FRACTION and STATUS");
        NetLaw x = Twins.rich();
        x.image(1);
        x.rain(7);
        x.drop(2);
        x.from(1);
        due("BAD behind from", x.status(0), 1);
        due("NO behind from", x.status(1), 1);
        Due.sentence("2, (but for IMAGES, THE TEXT, THE FRACTION, STATUS)");
        x.net(0, 0);
        due("BAD behind net", x.status(0), 1);
        due("NO behind net", x.status(1), 1);
        x.read();
        due("BAD behind read", x.status(0), 1);
        x.clear();
        x.forget();
        due("NO behind clear, forget", x.status(1), 1);
    }

    private static NetLaw allLaw() {
        NetLaw x = new NetLaw();
        Nets.wideAll(x, 0);
        return x;
    }

    /** By 2 the one mends unless the other does; the other mends only if the one does. */
    private static NetLaw restless() {
        NetLaw x = new NetLaw();
        x.tie(1, 0, 1, 0);
        x.wide(0, 3);
        x.wide(1, 5);
        return x;
    }

    private static void notRefused() {
        Due.sentence("each answer told so below is such a one");
        Twins.silent("18, NONE: which", NetLaw::new, x -> x.holdsAll(0), NetLaw.NONE);
        Twins.silent("18, NONE: how many", NetLaw::new, x -> x.holdsAll(1), NetLaw.NONE);
        Twins.silent("19, NONE", NetLaw::new, x -> x.dropped(0), NetLaw.NONE);
        Twins.silent("20, -5", NetLaw::new, x -> x.least(0, 1, -1), -5);
        Twins.silent("20, -5 of a knot", NetLaw::new, x -> x.least(0, 1, 15), -5);
        Twins.silent("21, NONE: the fewest", RefusalBoundsTest::allLaw, x -> x.fish(0), NetLaw.NONE);
        Twins.silent("21, NONE: from which", RefusalBoundsTest::allLaw, x -> x.fish(1), NetLaw.NONE);
        Twins.silent("26, NONE", () -> Nets.withReadings(1, 0, 30), x -> x.tries(), NetLaw.NONE);
        Twins.silent("27, NONE", RefusalBoundsTest::allLaw, x -> x.stood(0, 0, 1), NetLaw.NONE);
        Twins.silent("28, NONE", RefusalBoundsTest::restless, x -> x.menders(0, 1, 2, 1), NetLaw.NONE);
        Twins.silent("14, a FAULT", NetLaw::new, x -> x.read(), -10);
        Due.sentence("ITEMS are none");
        Twins.silent("14, the first ITEM", () -> withText("net 2 0;"), x -> x.read(), -1000);
        Twins.silent("14, the second", () -> withText("net 1 0;wide 9 1;"), x -> x.read(), -1001);
    }

    private static NetLaw withText(String text) {
        NetLaw x = Twins.rich();
        Due.typeAll(x, text);
        return x;
    }

    private static void onlyTells() {
        Due.sentence("(What is below changes nothing.)");
        tells("of", x -> x.of(5, 4));
        tells("clause", x -> x.clause(4, 2));
        tells("laws", x -> x.laws());
        tells("holdsAll", x -> x.holdsAll(0));
        tells("dropped", x -> x.dropped(0));
        tells("least", x -> x.least(0, 1, -1));
        tells("fish", x -> x.fish(0));
        tells("precedent", x -> x.precedent(0));
        tells("may", x -> x.may());
        tells("tries", x -> x.tries());
        tells("stood", x -> x.stood(6, 2, 0));
        tells("menders", x -> x.menders(0, 1, 2, 0));
        tells("drawn", x -> x.drawn(999999, 30));
        tells("part", x -> x.part(0));
        tells("status", x -> x.status(0));
        tells("count", x -> x.count(0));
        tells("digest", x -> x.digest());
    }

    private static void tells(String name, ToLongFunction<NetLaw> call) {
        Twins.silent(name, Twins::rich, call, call.applyAsLong(Twins.rich()));
    }
}
