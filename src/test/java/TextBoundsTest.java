/** The bounds of THE TEXT and THE NET: empty and full, tokens, the place of a FAULT, ITEMS that are refused. */
public final class TextBoundsTest {
    public static void main(String[] args) {
        typeUpToFull();
        clearEmptyAndFull();
        emptyText();
        endsTooEarly();
        fullText();
        longestNet();
        netOnceAndFirst();
        wordsThatAreNone();
        lettersAtTheirBounds();
        numbersOfFigures();
        figuresAtTheirBounds();
        bytesThatBeginNone();
        stopsAndBlanks();
        tooFewAndTooMany();
        firstFaultCounts();
        itemsAtTheirBounds();
        itemsRefused();
        faultAheadOfItems();
        toldAnew();
        inTheirOrder();
        shorterBehindLonger();
        whatStays();
        nothingUndoneBehindIt();
        Due.end("TextBoundsTest");
    }

    private static void due(String what, long got, long want) {
        Due.due(what, got, want);
    }

    private static NetLaw withText(String text) {
        NetLaw x = Twins.rich();
        Due.typeAll(x, text);
        return x;
    }

    private static void dueItems(String text, int items) {
        NetLaw x = withText(text);
        due("'" + text + "'", x.read(), items);
        due("'" + text + "' is not refused", x.status(0) + x.status(1) + x.status(2), 0);
    }

    private static void dueFault(String text, int place) {
        Twins.silent("'" + text + "'", () -> withText(text), x -> x.read(), -10 - place);
    }

    private static void dueRefused(String text, int item) {
        Twins.silent("'" + text + "'", () -> withText(text), x -> x.read(), -1000 - item);
    }

    private static String padded(String text, int length) {
        return text + " ".repeat(length - text.length());
    }

    private static void typeUpToFull() {
        Due.sentence("12, A byte (0 .. 127) comes behind THE TEXT: how many it has");
        NetLaw x = new NetLaw();
        for (int i = 1; i <= 150; i++) {
            due("byte " + i, x.type(i % 128), i);
            due("count", x.count(7), i);
        }
        due("151", x.type(0), NetLaw.FULL);
        due("150 stay", x.count(7), 150);
        Due.sentence("12, comes behind THE TEXT");
        NetLaw y = withText("net 1 5");
        due("a net without its end", y.read(), -17);
        y.type('6');
        y.type(';');
        due("a figure and an end behind it", y.read(), 1);
        due("TWINE", y.count(2), 56);
    }

    private static void clearEmptyAndFull() {
        Due.sentence("13, THE TEXT is empty: how many it had");
        NetLaw x = new NetLaw();
        due("empty", x.clear(), 0);
        x.type('n');
        due("one byte", x.clear(), 1);
        due("empty again", x.clear(), 0);
        for (int i = 0; i < 151; i++) {
            x.type('n');
        }
        due("full", x.clear(), 150);
        due("none are left", x.count(7), 0);
        due("FAULT of an empty one", x.read(), -10);
        due("the first again", x.type('n'), 1);
        due("by itself", x.read(), -10);
    }

    private static void emptyText() {
        Due.sentence("FAULT: .. the TEXT's length, if it ends too early (an empty one, too)");
        dueFault("", 0);
        dueFault(" ", 1);
        dueFault(" ".repeat(149), 149);
        dueFault(" ".repeat(150), 150);
    }

    private static void endsTooEarly() {
        Due.sentence("FAULT: .. the TEXT's length, if it ends too early");
        String whole = "net 1 23; wide 8 30;knot 15 5 9 2;";
        int[] items = new int[whole.length() + 1];
        items[9] = 1;
        items[10] = 1;
        items[20] = 2;
        items[34] = 3;
        for (int length = 0; length <= whole.length(); length++) {
            String text = whole.substring(0, length);
            if (items[length] > 0) {
                dueItems(text, items[length]);
            } else if (Character.isLetter(length > 0 ? text.charAt(length - 1) : ' ')
                    && !text.endsWith("net") && !text.endsWith("wide") && !text.endsWith("knot")) {
                // A word that is not whole yet is a word that is none.
                dueFault(text, Math.max(text.lastIndexOf(' '), text.lastIndexOf(';')) + 1);
            } else {
                dueFault(text, length);
            }
        }
        dueFault("net 1 23   ", 11);
        dueFault("net 1 23;wide 8   ", 18);
    }

    private static void fullText() {
        Due.sentence("THE NET is a TEXT (150 bytes at most)");
        dueItems(padded("net 1 23;", 149), 1);
        dueItems(padded("net 1 23;", 150), 1);
        dueItems(" ".repeat(141) + "net 1 23;", 1);
        dueFault(" ".repeat(142) + "net 1 23", 150);
        dueFault(" ".repeat(149) + "n", 149);
        dueFault(padded("net 1 23;", 149) + ";", 149);
        dueFault(padded("net 1 23;", 148) + ";", 148);
        dueFault(padded("net 1 23", 150), 150);
        NetLaw x = withText(padded("net 1 23", 150));
        due("no room for its end", x.type(';'), NetLaw.FULL);
        due("it ends too early", x.read(), -160);
    }

    private static void longestNet() {
        Due.sentence("14, how many ITEMS");
        dueItems("net0 0;", 1);
        String most = "net0 0;" + "wide0 9;".repeat(17);
        dueItems(most, 18);
        dueItems(padded(most, 150), 18);
        dueRefused("net0 0;" + "wide0 9;".repeat(16) + "wide9 9;", 17);
        dueRefused("net0 0;" + "wide0 9;".repeat(16) + "wide0 31;", 17);
        dueFault(most + "wide0 9", 150);
        dueFault(most + "wide0 ;", 149);
    }

    private static void netOnceAndFirst() {
        Due.sentence("net RAIN TWINE (once, first of all) .. FAULT: .. (.. net again, anything ahead of it ..)");
        dueItems("net 0 0;", 1);
        dueFault("net 0 0;net 0 0;", 8);
        dueFault("net 0 0;wide 0 0;net 0 0;", 17);
        dueFault("net net 0 0;", 4);
        dueFault("net 0 net 0;", 6);
        dueFault("wide 0 0;net 0 0;", 0);
        dueFault("knot 0 0 1 0;net 0 0;", 0);
        dueFault("knot 0 0 1 0;", 0);
        dueFault("7 net 0 0;", 0);
        dueFault(";net 0 0;", 0);
        dueFault(" ;net 0 0;", 1);
        dueFault("-net 0 0;", 0);
    }

    private static void wordsThatAreNone() {
        Due.sentence("FAULT: .. (a word that is none ..)");
        for (String word : new String[] {"n", "ne", "nets", "nett", "ned", "met", "nat", "ten", "a", "z"}) {
            dueFault(word + " 0 0;", 0);
        }
        for (String word : new String[] {"k", "kno", "knots", "knott", "knob", "snot", "wid", "wides", "widf", "side", "rope"}) {
            dueFault("net 0 0; " + word + " 0 0 1 0;", 9);
        }
        dueFault("netnet 0 0;", 0);
        dueFault("net 0 0;wideknot 0 0;", 8);
        dueFault("net a 0;", 4);
        dueFault("net 0 0;wide 0 a;", 15);
        dueFault("net 0 0 a;", 8);
        dueFault("net wide 0;", 4);
    }

    private static void lettersAtTheirBounds() {
        Due.sentence("TOKENS: letters a .. z that stand together (a word)");
        // Just outside a .. z a word ends, and the byte begins none.
        dueFault("net`0 0;", 3);
        dueFault("net{0 0;", 3);
        dueFault("neta0 0;", 0);
        dueFault("netz0 0;", 0);
        dueFault("NET 0 0;", 0);
        dueFault("nEt 0 0;", 0);
        dueFault("neT 0 0;", 0);
        dueFault("n et 0 0;", 0);
        dueFault("ne0 0;", 0);
        dueItems("net0 0;", 1);
        dueItems("net0 0;wide0 0;knot0 0 1 0;", 3);
    }

    private static void numbersOfFigures() {
        Due.sentence("figures that stand together (a number; of more than 2 it is none)");
        dueItems("net 0 0;", 1);
        dueItems("net 1 9;", 1);
        dueItems("net 01 99;", 1);
        dueItems("net 00 00;", 1);
        dueFault("net 000 0;", 4);
        dueFault("net 001 0;", 4);
        dueFault("net 0 000;", 6);
        dueFault("net 0 100;", 6);
        dueFault("net 0 12345678901234567890;", 6);
        dueFault("net 0 4294967296;", 6);
        dueFault("net 0 0;wide 8 030;", 15);
        dueFault("net 0 0;knot 015 0 1 0;", 13);
        dueFault("net 0 0;knot 15 0 1 002;", 20);
        dueFault("net 0 0 100;", 8);
        dueFault("net 0 0;100", 8);
        dueItems("net 0 0;knot 05 05 09 02;", 2);
        Due.sentence("(a number ..) as its two figures say");
        for (String twine : new String[] {"0", "1", "9", "00", "09", "10", "98", "99"}) {
            NetLaw x = withText("net 1 " + twine + ";");
            due("net 1 " + twine, x.read(), 1);
            due("TWINE " + twine, x.count(2), Integer.parseInt(twine));
        }
    }

    private static void figuresAtTheirBounds() {
        Due.sentence("TOKENS: .. figures that stand together (a number ..)");
        dueFault("net 1/0;", 5);
        dueFault("net 1:0;", 5);
        dueFault("net /1 0;", 4);
        dueFault("net :1 0;", 4);
        dueFault("net +1 0;", 4);
        dueFault("net -1 0;", 4);
        dueFault("net 1.0 0;", 5);
        dueFault("net 10;", 6);
        dueItems("net 1 0;", 1);
        dueFault("net 1 0a;", 7);
        dueFault("net 1 0;2", 8);
    }

    private static void bytesThatBeginNone() {
        Due.sentence("FAULT: .. (.. a byte that begins none, too)");
        for (int c = 0; c <= 127; c++) {
            boolean begins = c >= 'a' && c <= 'z' || c >= '0' && c <= '9' || c == ';' || c == ' ';
            if (!begins) {
                dueFault((char) c + "net 0 0;", 0);
                dueFault("net" + (char) c + "0 0;", 3);
                dueFault("net 0 0;" + (char) c, 8);
            }
        }
    }

    private static void stopsAndBlanks() {
        Due.sentence("ITEMS, each ended by ; .. blanks (32) between");
        dueItems("net 0 0 ;", 1);
        dueItems("  net  0  0  ;  wide  0  0  ;  ", 2);
        dueFault("net 0 0;;", 8);
        dueFault("net 0 0; ;", 9);
        dueFault("net 0 0\u001f;", 7);
        dueFault("net 0 0!;", 7);
        dueFault("net\t0 0;", 3);
        dueFault("net 0 0;\n", 8);
        dueFault("net 0 0 wide 0 0;", 8);
        dueFault("net 0 0:wide 0 0;", 7);
        dueFault("net 0 0<wide 0 0;", 7);
    }

    private static void tooFewAndTooMany() {
        Due.sentence("net RAIN TWINE ..; knot k KIND STRENGTH VILLAGE; wide c n");
        dueFault("net;", 3);
        dueFault("net 0;", 5);
        dueItems("net 0 0;", 1);
        dueFault("net 0 0 0;", 8);
        dueFault("net 0 0;wide;", 12);
        dueFault("net 0 0;wide 0;", 14);
        dueItems("net 0 0;wide 0 0;", 2);
        dueFault("net 0 0;wide 0 0 0;", 17);
        dueFault("net 0 0;knot;", 12);
        dueFault("net 0 0;knot 0;", 14);
        dueFault("net 0 0;knot 0 0;", 16);
        dueFault("net 0 0;knot 0 0 1;", 18);
        dueItems("net 0 0;knot 0 0 1 0;", 2);
        dueFault("net 0 0;knot 0 0 1 0 0;", 21);
    }

    private static void firstFaultCounts() {
        Due.sentence("FAULT: the place of the first byte of the first TOKEN that can not stand there");
        dueFault("net 0 rope 100 -;", 6);
        dueFault("net 0 100 rope;", 6);
        dueFault("net 0 0; rope; net", 9);
        dueFault("net 0 0;     rope", 13);
        dueFault("nett 0", 0);
        dueFault("net 0 0;wide 0 0; 12 100", 18);
    }

    private static void itemsAtTheirBounds() {
        Due.sentence("14, THE NET is read, at the bounds of its numbers");
        NetLaw x = withText("net 0 99;knot 0 0 1 0;knot 15 5 9 2;wide 0 0;wide 8 30;");
        due("items", x.read(), 5);
        due("RAIN", x.count(1), 0);
        due("TWINE", x.count(2), 99);
        int[][] want = {{0, 1, 0}, {5, 9, 2}};
        for (int i = 0; i < 2; i++) {
            for (int what = 0; what < 3; what++) {
                due("of(" + 15 * i + ", " + what + ")", x.of(15 * i, what), want[i][what]);
            }
        }
        due("two knots", x.count(0), 2);
        due("WIDE 0", x.clause(0, 0), 0);
        due("WIDE 30", x.clause(8, 0), 30);
        due("the others 9", x.clause(4, 0), 9);
    }

    private static void itemsRefused() {
        Due.sentence("the first ITEM (0 on) that is refused (as its call is; net as its two numbers are told): nothing changes");
        dueRefused("net 2 0;", 0);
        dueRefused("net 99 99;", 0);
        dueItems("net 1 99;", 1);
        dueRefused("net 0 0;knot 16 0 1 0;", 1);
        dueRefused("net 0 0;knot 99 0 1 0;", 1);
        dueRefused("net 0 0;knot 0 6 1 0;", 1);
        dueRefused("net 0 0;knot 0 0 0 0;", 1);
        dueRefused("net 0 0;knot 0 0 10 0;", 1);
        dueRefused("net 0 0;knot 0 0 1 3;", 1);
        dueRefused("net 0 0;wide 9 0;", 1);
        dueRefused("net 0 0;wide 0 31;", 1);
        dueRefused("net 0 0;wide 0 99;", 1);
        Due.sentence("the first ITEM (0 on) that is refused");
        dueRefused("net 0 0;wide 0 0;wide 9 0;", 2);
        dueRefused("net 0 0;wide 9 0;wide 0 31;knot 16 0 1 0;", 1);
        dueRefused("net 2 0;wide 9 0;", 0);
        dueRefused("net 0 0;knot 0 0 1 0;wide 0 0;knot 1 0 0 0;wide 0 0;", 3);
    }

    private static void faultAheadOfItems() {
        Due.sentence("A NET without a FAULT is told anew");
        dueFault("net 2 0;rope", 8);
        dueFault("net 2 0", 7);
        dueFault("net 0 0;wide 9 0;wide 0 31", 26);
        dueFault("net 0 0;knot 16 0 1 0;!", 22);
    }

    private static void toldAnew() {
        Due.sentence("told anew by these alone .. (HANDS, READINGS none, the NIGHT 0)");
        NetLaw x = withText("net 1 5;");
        due("read", x.read(), 1);
        NetLaw y = Twins.rich();
        Due.typeAll(y, "net 1 5;");
        y.net(1, 5);
        Twins.dueAlike("as net does", x, y);
        NetLaw z = withText("net 0 0;");
        z.read();
        int[] want = {0, 0, 0, 0, 0, 0, 0, 8};
        for (int what = 0; what < 8; what++) {
            due("count(" + what + ")", z.count(what), want[what]);
        }
        for (int k = 0; k < 16; k++) {
            due("KIND of " + k, z.of(k, 0), 0);
            due("VILLAGE of " + k, z.of(k, 2), 0);
        }
        for (int c = 0; c < 9; c++) {
            due("WIDE " + c, z.clause(c, 0), 9);
        }
    }

    private static void inTheirOrder() {
        Due.sentence("told anew by these alone, in their order");
        NetLaw x = withText("net 0 0;knot 3 1 9 1;wide 3 4;knot 3 2 1 2;wide 3 5;");
        due("read", x.read(), 5);
        due("KIND of the last", x.of(3, 0), 2);
        due("STRENGTH of the last", x.of(3, 1), 1);
        due("VILLAGE of the last", x.of(3, 2), 2);
        due("WIDE of the last", x.clause(3, 0), 5);
        due("again", x.read(), 5);
        due("one knot", x.count(0), 1);
    }

    private static void shorterBehindLonger() {
        Due.sentence("told anew by these alone (nothing of a text that was read ahead)");
        NetLaw x = new NetLaw();
        Due.typeAll(x, "net 0 0;wide 0 5;knot 1 0 0 0;");
        due("the last ITEM is refused", x.read(), -1002);
        Due.typeAll(x, "net 1 1;wide 1 6;");
        due("two ITEMS", x.read(), 2);
        due("WIDE 0 is 9", x.clause(0, 0), 9);
        Due.typeAll(x, "net 0 2;");
        due("one ITEM", x.read(), 1);
        due("WIDE 1 is 9", x.clause(1, 0), 9);
        Due.typeAll(x, "");
        due("none", x.read(), -10);
        due("TWINE stays", x.count(2), 2);
    }

    private static void whatStays() {
        Due.sentence("14, THE NET is read: THE TEXT, THE FRACTION, IMAGES, STATUS stay");
        NetLaw x = withText("net 0 0;");
        long above = x.part(0);
        long below = x.part(1);
        x.rain(2);
        due("read", x.read(), 1);
        due("THE TEXT", x.count(7), 8);
        due("above", x.part(0), above);
        due("below", x.part(1), below);
        due("STATUS", x.status(0), 1);
        due("the IMAGE", x.from(0), 1);
        due("its KNOTS", x.count(0), 6);
        due("the other was not kept", x.from(1), NetLaw.NO);
    }

    private static void nothingUndoneBehindIt() {
        Due.sentence("behind it nothing may be undone");
        NetLaw x = withText("net 0 0;knot 0 0 1 0;knot 1 0 1 0;");
        due("ahead", x.count(6), 8);
        due("read", x.read(), 3);
        due("behind", x.count(6), 0);
        due("undo", x.undo(), NetLaw.NO);
        x.drop(0);
        due("one act more", x.count(6), 1);
        due("it is undone", x.undo(), 0);
        due("to what was read", x.of(0, 1), 1);
        NetLaw fault = withText("net 0 0;knot 0 0 1 0");
        due("a FAULT", fault.read(), -30);
        due("leaves what may be", fault.count(6), 8);
        NetLaw refused = withText("net 0 0;knot 0 0 0 0;");
        due("an ITEM", refused.read(), -1001);
        due("leaves what may be", refused.count(6), 8);
    }
}
