/** Promises 1 to 7: a new object, type, wipe, undo, fault, house, bride. */
public final class TextsTest {
    private static final int NONE = -1, BAD = -2, NOT = -3, FULL = -4;
    private static final String SIX_HOUSES = "sa;wb;tc;sr;ws;tt";
    private static final String EIGHT_BRIDES = "0a8a;1b8b;2c8c;3d8d;4e8e;5f8f;0x0t;1w7s";
    private static final Check check = new Check();

    public static void main(String[] args) {
        newObject();
        type();
        wipe();
        undo();
        faultOfHouses();
        faultOfBrides();
        faultIsAsEmpty();
        house();
        bride();
        check.finish();
    }

    private static void newObject() {
        BrideDoors x = new BrideDoors();
        for (int what = 0; what <= 8; what++) {
            check.due("new: count(" + what + ")", x.count(what), 0);
        }
        check.due("new: fault(0)", x.fault(0), NONE);
        check.due("new: fault(1)", x.fault(1), NONE);
        for (int s = 0; s < 4; s++) {
            check.due("new: lose(" + s + ")", x.lose(s), -11);
        }
    }

    private static void type() {
        BrideDoors x = new BrideDoors();
        check.due("type the byte 0", x.type(0, 0), 1);
        check.due("type the byte 255", x.type(0, 255), 2);
        check.due("type(0, -1)", x.type(0, -1), BAD);
        check.due("type(0, 256)", x.type(0, 256), BAD);
        check.due("type(-1, 97)", x.type(-1, 97), BAD);
        check.due("type(2, 97)", x.type(2, 97), BAD);
        check.due("refusals type nothing", x.count(2), 2);
        check.due("the other text is another", x.type(1, 48), 1);
        for (int i = 3; i <= 17; i++) {
            check.due("byte " + i + " of houses", x.type(0, 'z'), i);
        }
        check.due("houses are full", x.type(0, 'z'), FULL);
        check.due("BAD is ahead of FULL", x.type(0, 256), BAD);
        check.due("FULL types nothing", x.count(2), 17);
        for (int i = 2; i <= 39; i++) {
            check.due("byte " + i + " of brides", x.type(1, 'z'), i);
        }
        check.due("brides are full", x.type(1, 'z'), FULL);
        check.due("FULL types nothing", x.count(3), 39);
    }

    private static void wipe() {
        BrideDoors x = Check.told(SIX_HOUSES, "0a8a");
        check.due("wipe(-1)", x.wipe(-1), BAD);
        check.due("wipe(2)", x.wipe(2), BAD);
        check.due("wipe(0)", x.wipe(0), 17);
        check.due("wiped houses", x.count(0), 0);
        check.due("wiped bytes", x.count(2), 0);
        check.due("brides are still told", x.count(1), 1);
        check.due("wipe(0) of an empty text", x.wipe(0), 0);
        check.due("wipe(1)", x.wipe(1), 4);
        check.due("wiped brides", x.count(1), 0);
        check.due("type behind a wipe", x.type(1, 48), 1);
    }

    private static void undo() {
        BrideDoors x = Check.told("sa;wb", "0a8a");
        check.due("undo(-1)", x.undo(-1), BAD);
        check.due("undo(2)", x.undo(2), BAD);
        check.due("undo(0)", x.undo(0), 4);
        check.due("a house that is not ended", x.fault(0), 4);
        check.due("undo(0)", x.undo(0), 3);
        check.due("undo(0)", x.undo(0), 2);
        check.due("one house is left", x.count(0), 1);
        check.due("undo(0)", x.undo(0), 1);
        check.due("undo(0)", x.undo(0), 0);
        check.due("undo(0) of an empty text", x.undo(0), NOT);
        check.due("undo(1)", x.undo(1), 3);
    }

    private static void faultOf(int text, String signs, int want) {
        BrideDoors x = new BrideDoors();
        Check.typeAll(x, text, signs);
        check.due("fault of '" + signs + "'", x.fault(text), want);
    }

    private static void faultOfHouses() {
        faultOf(0, "", NONE);
        faultOf(0, "sa", NONE);
        faultOf(0, "wt", NONE);
        faultOf(0, SIX_HOUSES, NONE);
        faultOf(0, "s", 1);
        faultOf(0, "sa;", 3);
        faultOf(0, "sa;w", 4);
        faultOf(0, ";", 0);
        faultOf(0, "x", 0);
        faultOf(0, "S", 0);
        faultOf(0, "su", 1);
        faultOf(0, "s`", 1);
        faultOf(0, "s;", 1);
        faultOf(0, "saw", 2);
        faultOf(0, "sa;;", 3);
        faultOf(0, "sa;sz;sa", 4);
        faultOf(0, "xsa;sa", 0);
        faultOf(0, "sa:sa", 2);
        faultOf(0, "sa<sa", 2);
        faultOf(0, "\0", 0);
        faultOf(0, "s\u00ff", 1);
        faultOf(0, SIX_HOUSES.substring(0, 16), 16);
        check.due("fault(-1)", new BrideDoors().fault(-1), BAD);
        check.due("fault(2)", new BrideDoors().fault(2), BAD);
    }

    private static void faultOfBrides() {
        faultOf(1, "", NONE);
        faultOf(1, "0a0a", NONE);
        faultOf(1, "5x8t", NONE);
        faultOf(1, EIGHT_BRIDES, NONE);
        faultOf(1, "0", 1);
        faultOf(1, "0a", 2);
        faultOf(1, "0a8", 3);
        faultOf(1, "0a8a;", 5);
        faultOf(1, "6", 0);
        faultOf(1, "/", 0);
        faultOf(1, "0y", 1);
        faultOf(1, "0`", 1);
        faultOf(1, "0a9", 2);
        faultOf(1, "0a/", 2);
        faultOf(1, "0a8u", 3);
        faultOf(1, "0a8`", 3);
        faultOf(1, "0a8a0", 4);
        faultOf(1, "0a8a;;", 5);
        faultOf(1, "0a8a;1b9b;2c8c", 7);
    }

    private static void faultIsAsEmpty() {
        BrideDoors x = Check.told("sa;wb;", "0a8a;1b8b;x");
        check.due("houses with a fault", x.count(0), 0);
        check.due("brides with a fault", x.count(1), 0);
        check.due("bytes with a fault", x.count(2), 6);
        check.due("house(0, 0) with a fault", x.house(0, 0), BAD);
        check.due("bride(0, 0) with a fault", x.bride(0, 0), BAD);
        check.due("draught with a fault", x.draught(23), 0);
        x.undo(0);
        x.undo(1);
        x.undo(1);
        check.due("houses are back", x.count(0), 2);
        x.type(0, 'x');
        check.due("a wrong sign behind houses that were well", x.count(0), 0);
        x.undo(0);
        check.due("brides are back", x.count(1), 2);
    }

    private static void house() {
        BrideDoors x = Check.told("sa;wj;tt", "2a8t;1a8t");
        int[][] want = {{0, 1}, {1, 10}, {2, 20}};
        for (int h = 0; h < 3; h++) {
            for (int what = 0; what < 2; what++) {
                check.due("house(" + h + ", " + what + ")", x.house(h, what), want[h][what]);
            }
        }
        check.due("house(3, 0)", x.house(3, 0), BAD);
        check.due("house(-1, 0)", x.house(-1, 0), BAD);
        check.due("house(0, 2)", x.house(0, 2), BAD);
        check.due("house(0, -1)", x.house(0, -1), BAD);
        BrideDoors six = Check.told(SIX_HOUSES, "");
        check.due("the sixth house", six.house(5, 1), 20);
        check.due("a seventh house", six.house(6, 1), BAD);
    }

    private static void bride() {
        BrideDoors x = Check.told("", "5x3t;0a8a");
        int[][] want = {{5, 23, 3, 20}, {0, 0, 8, 1}};
        for (int b = 0; b < 2; b++) {
            for (int what = 0; what < 4; what++) {
                check.due("bride(" + b + ", " + what + ")", x.bride(b, what), want[b][what]);
            }
        }
        check.due("bride(2, 0)", x.bride(2, 0), BAD);
        check.due("bride(-1, 0)", x.bride(-1, 0), BAD);
        check.due("bride(0, 4)", x.bride(0, 4), BAD);
        check.due("bride(0, -1)", x.bride(0, -1), BAD);
        BrideDoors eight = Check.told("", EIGHT_BRIDES);
        check.due("the eighth bride", eight.bride(7, 3), 19);
        check.due("a ninth bride", eight.bride(8, 3), BAD);
    }
}
