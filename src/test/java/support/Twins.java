import java.util.ArrayList;
import java.util.List;
import java.util.function.Supplier;
import java.util.function.ToLongFunction;

/**
 * Two objects that are made alike: one is given a call that may change nothing, and then both are
 * looked through, in the end by calls that change them (what is undone, images, the text).
 */
final class Twins {
    static final int AS_BAD = 0, AS_NO = 1, AS_FULL = 2, NOT_REFUSED = -1;
    private static final int MOST_UNDONE = 8;

    private Twins() {
    }

    /** An object with something in every place, image 0 kept, image 1 not. */
    static NetLaw rich() {
        NetLaw x = new NetLaw();
        x.net(1, 40);
        x.tie(0, 5, 6, 1);
        x.tie(1, 0, 7, 2);
        x.tie(5, 4, 1, 0);
        x.tie(6, 2, 3, 1);
        x.tie(10, 3, 9, 2);
        x.tie(15, 1, 5, 1);
        x.wide(0, 8);
        x.wide(4, 3);
        x.wide(8, 0);
        x.hands(1 << 5 | 1 << 6 | 1 << 15);
        x.reading(4, 1, 3);
        x.reading(9, 0, 9);
        x.odds(0, 3);
        x.image(0);
        x.night();
        x.mend(1, 1);
        x.drop(6);
        x.twine(30);
        Due.typeAll(x, "net 0 7;knot 2 1 3 2;wide 5 6;");
        return x;
    }

    /** A call that is refused: its answer, that it is counted once, and that nothing else changes. */
    static void refused(String what, Supplier<NetLaw> maker, ToLongFunction<NetLaw> call, long answer, int reason) {
        NetLaw asked = maker.get();
        NetLaw left = maker.get();
        Due.due(what, call.applyAsLong(asked), answer);
        for (int i = AS_BAD; i <= AS_FULL; i++) {
            Due.due(what + ": status(" + i + ")", asked.status(i), left.status(i) + (i == reason ? 1 : 0));
        }
        dueAlike(what, asked, left);
    }

    /** A call that only tells: its answer, and that nothing changes, STATUS neither. */
    static void silent(String what, Supplier<NetLaw> maker, ToLongFunction<NetLaw> call, long answer) {
        refused(what, maker, call, answer, NOT_REFUSED);
    }

    static void dueAlike(String what, NetLaw one, NetLaw other) {
        List<Long> ofOne = look(one);
        List<Long> ofOther = look(other);
        Due.due(what + ": as many answers", ofOne.size(), ofOther.size());
        for (int i = 0; i < Math.min(ofOne.size(), ofOther.size()); i++) {
            Due.due(what + ": changes nothing else, look " + i, ofOne.get(i), ofOther.get(i));
        }
    }

    private static List<Long> look(NetLaw x) {
        List<Long> seen = new ArrayList<>();
        lookAtNet(x, seen);
        seen.add((long) x.precedent(0));
        seen.add((long) x.precedent(1));
        undoAll(x, seen);
        seen.add((long) x.read());
        seen.add(x.digest());
        for (int i = 0; i < 2; i++) {
            seen.add((long) x.from(i));
            seen.add(x.digest());
            undoAll(x, seen);
        }
        return seen;
    }

    private static void lookAtNet(NetLaw x, List<Long> seen) {
        for (int k = 0; k < 16; k++) {
            for (int what = 0; what < 5; what++) {
                seen.add((long) x.of(k, what));
            }
        }
        for (int c = 0; c < 9; c++) {
            for (int what = 0; what < 3; what++) {
                seen.add((long) x.clause(c, what));
            }
        }
        for (int what = 0; what < 8; what++) {
            seen.add((long) x.count(what));
        }
        seen.add(x.part(0));
        seen.add(x.part(1));
        seen.add((long) x.may());
        seen.add(x.digest());
    }

    private static void undoAll(NetLaw x, List<Long> seen) {
        for (int i = 0; i <= MOST_UNDONE; i++) {
            seen.add((long) x.undo());
            seen.add(x.digest());
        }
    }
}
