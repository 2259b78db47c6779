/** Promises 29 to 34: sheet, lose, lay, get, copy, write. */
public final class SheetsTest {
    private static final int BAD = -2, NULL = -11, INDEX = -12, CAST = -13, STORE = -14, SIZE = -15;
    private static final int LEAST = Integer.MIN_VALUE;
    private static final Check check = new Check();

    public static void main(String[] args) {
        sheet();
        lose();
        layAndGet();
        lowestBits();
        layRefusals();
        getRefusals();
        copy();
        copyRefusals();
        write();
        writeRefusals();
        check.finish();
    }

    private static void sheet() {
        BrideDoors x = new BrideDoors();
        check.due("sheet(-1, 0, 1)", x.sheet(-1, 0, 1), BAD);
        check.due("sheet(4, 0, 1)", x.sheet(4, 0, 1), BAD);
        check.due("sheet(0, -1, 1)", x.sheet(0, -1, 1), BAD);
        check.due("sheet(0, 3, 1)", x.sheet(0, 3, 1), BAD);
        check.due("sheet(0, 0, 61)", x.sheet(0, 0, 61), BAD);
        check.due("BAD is ahead of SIZE", x.sheet(0, 3, -1), BAD);
        check.due("BAD is no finding", x.count(8), 0);
        check.due("sheet(0, 0, -1)", x.sheet(0, 0, -1), SIZE);
        check.due("its finding", x.count(8), 5);
        check.due("and no sheet", x.lose(0), NULL);
        check.due("sheet(0, 0, 60)", x.sheet(0, 0, 60), 60);
        check.due("the last item", x.get(0, 0, 59), 0);
        check.due("sheet(3, 2, 0)", x.sheet(3, 2, 0), 0);
        check.due("no item", x.get(3, 2, 0), LEAST);
        x.lay(0, 0, 5, 9);
        check.due("SIZE leaves the sheet", x.sheet(0, 1, -9), SIZE);
        check.due("as it was", x.get(0, 0, 5), 9);
        check.due("a new row in its place", x.sheet(0, 1, 10), 10);
        check.due("of another form", x.get(0, 1, 5), 0);
        check.due("and size", x.lay(0, 1, 10, 1), INDEX);
    }

    private static void lose() {
        BrideDoors x = new BrideDoors();
        x.sheet(1, 1, 7);
        x.lay(1, 1, 0, 3);
        check.due("lose(-1)", x.lose(-1), BAD);
        check.due("lose(4)", x.lose(4), BAD);
        check.due("lose(1)", x.lose(1), 7);
        check.due("no finding yet", x.count(8), 0);
        check.due("lose(1) again", x.lose(1), NULL);
        check.due("its finding", x.count(8), 1);
        x.sheet(1, 1, 7);
        check.due("a new row has nothing of the old one", x.get(1, 1, 0), 0);
    }

    private static void layAndGet() {
        BrideDoors x = new BrideDoors();
        for (int form = 0; form < 3; form++) {
            check.due("sheet", x.sheet(form, form, 3), 3);
            for (int i = 0; i < 3; i++) {
                check.due("at first", x.get(form, form, i), 0);
                check.due("lay", x.lay(form, form, i, 10 * form + i), 1);
            }
        }
        for (int form = 0; form < 3; form++) {
            for (int i = 0; i < 3; i++) {
                check.due("get", x.get(form, form, i), 10 * form + i);
            }
        }
        check.due("no finding", x.count(8), 0);
    }

    private static void lowestBits() {
        int[] values = {127, 128, 255, -129, 32767, 32768, 65535, -32769, Integer.MAX_VALUE, Integer.MIN_VALUE, -1};
        int[] bytes = {127, -128, -1, 127, -1, 0, -1, -1, -1, 0, -1};
        int[] shorts = {127, 128, 255, -129, 32767, -32768, -1, 32767, -1, 0, -1};
        BrideDoors x = new BrideDoors();
        x.sheet(0, 0, 1);
        x.sheet(1, 1, 1);
        x.sheet(2, 2, 1);
        for (int i = 0; i < values.length; i++) {
            for (int form = 0; form < 3; form++) {
                x.lay(form, form, 0, values[i]);
            }
            check.due(values[i] + " as a byte", x.get(0, 0, 0), bytes[i]);
            check.due(values[i] + " as a short", x.get(1, 1, 0), shorts[i]);
            check.due(values[i] + " as an int", x.get(2, 2, 0), values[i]);
        }
    }

    private static void layRefusals() {
        BrideDoors x = new BrideDoors();
        check.due("lay(-1, 0, 0, 0)", x.lay(-1, 0, 0, 0), BAD);
        check.due("lay(4, 0, 0, 0)", x.lay(4, 0, 0, 0), BAD);
        check.due("BAD is ahead of NULL", x.lay(0, 3, 0, 0), BAD);
        check.due("lay(0, -1, 0, 0)", x.lay(0, -1, 0, 0), BAD);
        check.due("no finding", x.count(8), 0);
        check.due("of a lost sheet", x.lay(0, 0, 0, 0), NULL);
        check.due("1", x.count(8), 1);
        x.sheet(0, 1, 2);
        check.due("CAST is ahead of INDEX", x.lay(0, 0, 2, 0), CAST);
        check.due("3", x.count(8), 3);
        check.due("lay(0, 1, 2, 0)", x.lay(0, 1, 2, 5), INDEX);
        check.due("2", x.count(8), 2);
        check.due("lay(0, 2, 0, 0)", x.lay(0, 2, 0, 5), CAST);
        check.due("lay(0, 1, -1, 0)", x.lay(0, 1, -1, 5), INDEX);
        check.due("nothing laid", x.get(0, 1, 0) + x.get(0, 1, 1), 0);
        check.due("the latest finding stays", x.count(8), 2);
    }

    private static void getRefusals() {
        BrideDoors x = new BrideDoors();
        check.due("get(-1, 0, 0)", x.get(-1, 0, 0), LEAST);
        check.due("get(4, 0, 0)", x.get(4, 0, 0), LEAST);
        check.due("get(0, -1, 0)", x.get(0, -1, 0), LEAST);
        check.due("get(0, 3, 0)", x.get(0, 3, 0), LEAST);
        check.due("BAD is no finding", x.count(8), 0);
        check.due("of a lost sheet", x.get(0, 0, 0), LEAST);
        check.due("1", x.count(8), 1);
        x.sheet(0, 2, 2);
        check.due("CAST is ahead of INDEX", x.get(0, 1, 2), LEAST);
        check.due("3", x.count(8), 3);
        check.due("get(0, 2, 2)", x.get(0, 2, 2), LEAST);
        check.due("2", x.count(8), 2);
        check.due("get(0, 0, 0)", x.get(0, 0, 0), LEAST);
        check.due("3", x.count(8), 3);
        check.due("get(0, 2, -1)", x.get(0, 2, -1), LEAST);
        check.due("2", x.count(8), 2);
    }

    private static BrideDoors row(int s, int form, int n) {
        BrideDoors x = new BrideDoors();
        x.sheet(s, form, n);
        for (int i = 0; i < n; i++) {
            x.lay(s, form, i, i + 1);
        }
        return x;
    }

    private static void items(String what, BrideDoors x, int s, int form, int... want) {
        for (int i = 0; i < want.length; i++) {
            check.due(what + ", item " + i, x.get(s, form, i), want[i]);
        }
    }

    private static void copy() {
        BrideDoors x = row(0, 2, 5);
        x.sheet(1, 2, 4);
        check.due("copy(0, 1, 1, 2, 2)", x.copy(0, 1, 1, 2, 2), 1);
        items("to another", x, 1, 2, 0, 0, 2, 3);
        items("from here", x, 0, 2, 1, 2, 3, 4, 5);
        check.due("copy upwards", x.copy(0, 0, 0, 1, 4), 1);
        items("as they were", x, 0, 2, 1, 1, 2, 3, 4);
        check.due("copy downwards", x.copy(0, 1, 0, 0, 4), 1);
        items("as they were", x, 0, 2, 1, 2, 3, 4, 4);
        check.due("all", x.copy(1, 0, 0, 0, 4), 1);
        items("all", x, 0, 2, 0, 0, 2, 3, 4);
        check.due("none", x.copy(0, 5, 1, 4, 0), 1);
        check.due("no finding", x.count(8), 0);
    }

    private static void copyRefusals() {
        BrideDoors x = row(0, 2, 5);
        int[] wrong = {-1, 4};
        for (int w : wrong) {
            check.due("BAD is ahead of NULL, of s", x.copy(w, 0, 1, 0, 1), BAD);
            check.due("BAD is ahead of NULL, of t", x.copy(1, 0, w, 0, 1), BAD);
        }
        check.due("no finding", x.count(8), 0);
        check.due("s is lost", x.copy(1, 0, 0, 0, 1), NULL);
        check.due("t is lost", x.copy(0, 0, 1, 0, 1), NULL);
        check.due("NULL is ahead of INDEX", x.copy(0, -1, 1, 0, 1), NULL);
        check.due("1", x.count(8), 1);
        x.sheet(1, 1, 5);
        check.due("STORE is ahead of INDEX", x.copy(0, 0, 1, 0, 6), STORE);
        check.due("4", x.count(8), 4);
        x.sheet(1, 2, 4);
        int big = Integer.MAX_VALUE;
        int[][] index = {{-1, 0, 1}, {0, -1, 1}, {0, 0, -1}, {0, 0, 5}, {1, 0, 5}, {0, 1, 4}, {6, 0, 0}, {0, 5, 0},
            {-1, 0, 0}, {0, -1, 0}, {big, 0, 1}, {0, big, 1}, {1, 1, big}, {big, big, big}, {4, 0, 2}, {LEAST, 0, LEAST}};
        for (int[] a : index) {
            check.due("copy(0, " + a[0] + ", 1, " + a[1] + ", " + a[2] + ")", x.copy(0, a[0], 1, a[1], a[2]), INDEX);
        }
        check.due("2", x.count(8), 2);
        items("nothing came", x, 1, 2, 0, 0, 0, 0);
        check.due("within one", x.copy(0, 0, 0, 1, 5), INDEX);
        items("nothing came", x, 0, 2, 1, 2, 3, 4, 5);
    }

    private static void write() {
        BrideDoors x = Check.told("sa;sj", "1c8h;1e8j;0a8a");
        x.event(1, 6, 1);
        int[] gaps = {10, 10, 2, 2, 0, 0, 1};
        for (int form = 0; form < 3; form++) {
            x.sheet(form, form, 26);
            x.lay(form, form, 24, 77);
            check.due("write(1, " + form + ")", x.write(1, form), 24);
            items("gaps", x, form, form, gaps);
            check.due("the last year", x.get(form, form, 23), 1);
            check.due("behind it", x.get(form, form, 24), 77);
        }
        x.sheet(3, 0, 3);
        check.due("write to three items", x.write(1, 3), 3);
        items("gaps", x, 3, 0, 10, 10, 2);
        x.sheet(3, 0, 0);
        check.due("write to none", x.write(1, 3), 0);
        check.due("no finding", x.count(8), 0);
    }

    private static void writeRefusals() {
        BrideDoors x = Check.told("sj", "");
        check.due("BAD is ahead of NULL", x.write(1, 0), BAD);
        check.due("write(-1, 0)", x.write(-1, 0), BAD);
        check.due("write(0, -1)", x.write(0, -1), BAD);
        check.due("write(0, 4)", x.write(0, 4), BAD);
        check.due("no finding", x.count(8), 0);
        check.due("write(0, 0)", x.write(0, 0), NULL);
        check.due("1", x.count(8), 1);
    }
}
