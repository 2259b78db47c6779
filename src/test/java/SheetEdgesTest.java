/** Each sentence about sheets and findings that names an edge, and promises 29 to 34. */
public final class SheetEdgesTest {
    private static final int BAD = -2, NULL = -11, INDEX = -12, CAST = -13, STORE = -14, SIZE = -15;
    private static final int LEAST = Integer.MIN_VALUE, MOST = Integer.MAX_VALUE;
    private static final int[] FAR = {LEAST, MOST};
    private static final Check check = new Check();

    public static void main(String[] args) {
        sheetsAreLostAtFirst();
        forms();
        zeroToSixty();
        zeroAtFirst();
        nullFinding();
        indexFinding();
        castFinding();
        storeFinding();
        sizeFinding();
        findingsChangeNothing();
        sheet();
        lose();
        lay();
        layLowestBits();
        get();
        copy();
        copyAsTheyWere();
        copyIndex();
        copyNoItems();
        write();
        writeGaps();
        writeLowestBits();
        check.finish();
    }

    private static void items(String what, BrideDoors x, int s, int form, int... want) {
        for (int i = 0; i < want.length; i++) {
            check.due(what + ", item " + i, x.get(s, form, i), want[i]);
        }
    }

    private static void found(String what, BrideDoors x, int answer, int want) {
        check.due(what, answer, want);
        check.due(what + ", its number", x.count(8), -10 - want);
    }

    private static void sheetsAreLostAtFirst() {
        check.sentence("SHEETS 0 .. 3 are LOST (at first) or a row of a FORM");
        for (int s = 0; s < 4; s++) {
            BrideDoors x = new BrideDoors();
            check.due("lost", x.lose(s), NULL);
            for (int other = 0; other < 4; other++) {
                check.due("a row", x.sheet(other, 2, 1 + other), 1 + other);
            }
            check.due("each has its own", x.lose(s), 1 + s);
            check.due("lost again", x.lose(s), NULL);
        }
        for (int s : new int[] {-1, 4, LEAST, MOST}) {
            BrideDoors x = new BrideDoors();
            check.due("sheet " + s, x.sheet(s, 0, 1), BAD);
            check.due("sheet " + s, x.lose(s), BAD);
            check.due("no finding", x.count(8), 0);
        }
    }

    private static void forms() {
        check.sentence("a row of a FORM: 0 bytes, 1 shorts, 2 ints");
        int[] want = {-128, -32768, LEAST};
        int[] laid = {128, 32768, LEAST};
        for (int form = 0; form < 3; form++) {
            BrideDoors x = new BrideDoors();
            x.sheet(0, form, 1);
            x.lay(0, form, 0, laid[form]);
            check.due("the least of form " + form, x.get(0, form, 0), want[form]);
            x.lay(0, form, 0, laid[form] - 1);
            check.due("the greatest of form " + form, x.get(0, form, 0), laid[form] - 1);
            check.due("it was no refusal", x.count(8), 0);
        }
        for (int form : new int[] {-1, 3, LEAST, MOST}) {
            BrideDoors x = new BrideDoors();
            check.due("form " + form, x.sheet(0, form, 1), BAD);
            check.due("no sheet", x.lose(0), NULL);
        }
    }

    private static void zeroToSixty() {
        check.sentence("of 0 to 60 items (0 at first)");
        for (int form = 0; form < 3; form++) {
            BrideDoors x = new BrideDoors();
            check.due("0", x.sheet(0, form, 0), 0);
            check.due("no item", x.lay(0, form, 0, 1), INDEX);
            check.due("0 it had, and it was not lost", x.lose(0), 0);
            check.due("1", x.sheet(0, form, 1), 1);
            check.due("the only item", x.lay(0, form, 0, 1), 1);
            check.due("60", x.sheet(0, form, 60), 60);
            check.due("the last item", x.lay(0, form, 59, 5), 1);
            check.due("the last item", x.get(0, form, 59), 5);
            check.due("behind it", x.lay(0, form, 60, 5), INDEX);
            check.due("61", x.sheet(0, form, 61), BAD);
            check.due("far more", x.sheet(0, form, MOST), BAD);
            check.due("the 60 are there still", x.lose(0), 60);
        }
    }

    private static void zeroAtFirst() {
        check.sentence("items (0 at first)");
        for (int form = 0; form < 3; form++) {
            BrideDoors x = new BrideDoors();
            x.sheet(1, form, 60);
            for (int i = 0; i < 60; i++) check.due("item " + i, x.get(1, form, i), 0);
            for (int i = 0; i < 60; i++) x.lay(1, form, i, 7);
            x.sheet(1, form, 20);
            x.sheet(1, form, 60);
            for (int i = 0; i < 60; i++) check.due("of a new row, item " + i, x.get(1, form, i), 0);
        }
        BrideDoors lost = new BrideDoors();
        Check.fill(lost, 0, 2, 5, 6, 7);
        lost.lose(0);
        lost.sheet(0, 0, 3);
        items("behind a lost one", lost, 0, 0, 0, 0, 0);
    }

    private static void nullFinding() {
        check.sentence("1 NULL: the SHEET is LOST");
        for (int s = 0; s < 4; s++) {
            BrideDoors x = Check.told("sj", "");
            x.sheet((s + 1) % 4, 0, 5);
            found("read", x, x.read(s), NULL);
            found("lose", x, x.lose(s), NULL);
            found("lay", x, x.lay(s, 0, 0, 1), NULL);
            found("copy from it", x, x.copy(s, 0, (s + 1) % 4, 0, 1), NULL);
            found("copy to it", x, x.copy((s + 1) % 4, 0, s, 0, 1), NULL);
            found("write", x, x.write(0, s), NULL);
            check.due("get", x.get(s, 0, 0), LEAST);
            check.due("its number", x.count(8), 1);
        }
    }

    private static void indexFinding() {
        check.sentence("2 INDEX: there is no such item");
        BrideDoors x = new BrideDoors();
        x.sheet(0, 1, 5);
        for (int i : new int[] {-1, 5, 6, 60, 256, 65536, LEAST, MOST}) {
            found("lay at " + i, x, x.lay(0, 1, i, 1), INDEX);
            check.due("get at " + i, x.get(0, 1, i), LEAST);
        }
        items("nothing is laid", x, 0, 1, 0, 0, 0, 0, 0);
        check.due("the first", x.lay(0, 1, 0, 1), 1);
        check.due("the last", x.lay(0, 1, 4, 1), 1);
    }

    private static void castFinding() {
        check.sentence("3 CAST: it has another FORM");
        for (int has = 0; has < 3; has++) {
            for (int as = 0; as < 3; as++) {
                BrideDoors x = new BrideDoors();
                x.sheet(0, has, 1);
                check.due(has + " as " + as, x.lay(0, as, 0, 1), has == as ? 1 : CAST);
                check.due("the number", x.count(8), has == as ? 0 : 3);
                check.due("get", x.get(0, as, 0), has == as ? 1 : LEAST);
                check.due("what is laid", x.get(0, has, 0), has == as ? 1 : 0);
            }
        }
    }

    private static void storeFinding() {
        check.sentence("4 STORE: unlike FORMS");
        for (int from = 0; from < 3; from++) {
            for (int to = 0; to < 3; to++) {
                BrideDoors x = new BrideDoors();
                x.sheet(0, from, 2);
                x.sheet(1, to, 2);
                x.lay(0, from, 0, 9);
                check.due(from + " to " + to, x.copy(0, 0, 1, 0, 1), from == to ? 1 : STORE);
                check.due("the number", x.count(8), from == to ? 0 : 4);
                check.due("no items at all", x.copy(0, 0, 1, 0, 0), from == to ? 1 : STORE);
                check.due("what came", x.get(1, to, 0), from == to ? 9 : 0);
            }
        }
    }

    private static void sizeFinding() {
        check.sentence("5 SIZE: below 0");
        for (int n : new int[] {-1, -60, -61, -256, LEAST}) {
            BrideDoors x = new BrideDoors();
            found("sheet of " + n, x, x.sheet(0, 0, n), SIZE);
            check.due("lost as before", x.lose(0), NULL);
            Check.fill(x, 0, 1, 4, 5);
            found("sheet of " + n, x, x.sheet(0, 2, n), SIZE);
            items("as it was", x, 0, 1, 4, 5);
            check.due("as long as it was", x.lose(0), 2);
        }
    }

    private static void findingsChangeNothing() {
        check.sentence("FINDINGS (answers -10 less the number; they change nothing but count() 8)");
        BrideDoors x = Check.told("sj", "0a8e", 1, 1, 0);
        Check.fill(x, 0, 0, 1, 2, 3);
        Check.fill(x, 1, 1, 4, 5);
        long digest = x.digest();
        check.due("before any", x.count(8), 0);
        found("NULL", x, x.lose(2), -11);
        found("INDEX", x, x.lay(0, 0, 3, 9), -12);
        found("CAST", x, x.lay(0, 1, 0, 9), -13);
        found("STORE", x, x.copy(0, 0, 1, 0, 1), -14);
        found("SIZE", x, x.sheet(0, 0, -1), -15);
        found("NULL, once more", x, x.read(3), -11);
        check.due("what is told is as it was", x.digest(), digest);
        items("the bytes", x, 0, 0, 1, 2, 3);
        items("the shorts", x, 1, 1, 4, 5);
        check.due("what is taken leaves the number", x.count(8), 1);
        x.lay(0, 1, 0, 9);
        check.due("CAST", x.count(8), 3);
        check.due("BAD", x.lay(4, 0, 0, 0), BAD);
        check.due("BAD leaves the number", x.count(8), 3);
        x.undo(2);
        x.event(3, 0, 0);
        check.due("BAD leaves the number", x.count(8), 3);
    }

    private static void sheet() {
        check.sentence("A SHEET is a new row of a FORM with n items: n. BAD: SHEET, FORM, above 60; SIZE.");
        BrideDoors x = new BrideDoors();
        check.due("sheet(0, 0, 0)", x.sheet(0, 0, 0), 0);
        check.due("sheet(3, 2, 60)", x.sheet(3, 2, 60), 60);
        for (int s : new int[] {-1, 4}) {
            check.due("BAD is ahead of SIZE", x.sheet(s, 0, -1), BAD);
            check.due("sheet(" + s + ", 0, 1)", x.sheet(s, 0, 1), BAD);
        }
        for (int form : new int[] {-1, 3}) {
            check.due("BAD is ahead of SIZE", x.sheet(0, form, -1), BAD);
            check.due("sheet(0, " + form + ", 1)", x.sheet(0, form, 1), BAD);
        }
        check.due("sheet(0, 0, 61)", x.sheet(0, 0, 61), BAD);
        check.due("BAD is no finding", x.count(8), 0);
        found("SIZE", x, x.sheet(0, 0, -1), SIZE);
        check.due("in place of another form", x.sheet(3, 0, 1), 1);
        check.due("it has the new one", x.lay(3, 0, 0, 1), 1);
        check.due("and not the old one", x.lay(3, 2, 0, 1), CAST);
        check.due("nor its items", x.lay(3, 0, 1, 1), INDEX);
    }

    private static void lose() {
        check.sentence("It is LOST: how many items it had. BAD; NULL.");
        BrideDoors x = new BrideDoors();
        for (int n : new int[] {0, 1, 59, 60}) {
            x.sheet(2, 1, n);
            check.due("of " + n, x.lose(2), n);
            found("again", x, x.lose(2), NULL);
        }
        x.sheet(0, 0, 3);
        x.sheet(1, 0, 4);
        x.lose(0);
        check.due("the other is there", x.lose(1), 4);
        for (int s : new int[] {-1, 4, LEAST, MOST}) check.due("lose(" + s + ")", x.lose(s), BAD);
        check.due("lost for all", x.get(0, 0, 0), LEAST);
    }

    private static void lay() {
        check.sentence("BAD; NULL; CAST; INDEX.");
        BrideDoors x = new BrideDoors();
        for (int s : new int[] {-1, 4, LEAST, MOST}) check.due("sheet " + s, x.lay(s, 0, 0, 1), BAD);
        for (int form : new int[] {-1, 3, LEAST, MOST}) check.due("BAD is ahead of NULL", x.lay(0, form, 0, 1), BAD);
        check.due("no finding", x.count(8), 0);
        found("NULL is ahead of INDEX", x, x.lay(0, 0, -1, 1), NULL);
        x.sheet(0, 1, 2);
        for (int form : new int[] {-1, 3}) check.due("BAD is ahead of CAST", x.lay(0, form, 5, 1), BAD);
        found("CAST is ahead of INDEX", x, x.lay(0, 0, 2, 1), CAST);
        found("CAST is ahead of INDEX", x, x.lay(0, 2, -1, 1), CAST);
        found("INDEX", x, x.lay(0, 1, 2, 1), INDEX);
        found("INDEX", x, x.lay(0, 1, -1, 1), INDEX);
        items("nothing is laid", x, 0, 1, 0, 0);
    }

    private static void layLowestBits() {
        check.sentence("Item i, treated as of a FORM, becomes v (the lowest bits that it has, with its sign): 1.");
        int[] values = {0, 1, -1, 127, 128, 129, 255, 256, 257, -127, -128, -129, -255, -256, 32767, 32768, 32769, 65535, 65536,
            65537, -32767, -32768, -32769, -65536, MOST, LEAST, LEAST + 1};
        for (int v : values) {
            BrideDoors x = new BrideDoors();
            int[] bits = {8, 16, 32};
            for (int form = 0; form < 3; form++) {
                x.sheet(form, form, 3);
                check.due("lay", x.lay(form, form, 1, v), 1);
                long low = v & (1L << bits[form]) - 1;
                long want = low >= 1L << bits[form] - 1 ? low - (1L << bits[form]) : low;
                check.due(v + " of form " + form, x.get(form, form, 1), want);
                check.due("the item ahead", x.get(form, form, 0), 0);
                check.due("the item behind", x.get(form, form, 2), 0);
            }
        }
    }

    private static void getFinds(String what, BrideDoors x, int s, int form, int i, int number) {
        check.due(what, x.get(s, form, i), LEAST);
        check.due(what + ", the number", x.count(8), number);
    }

    private static void get() {
        check.sentence("Item i of it. BAD: the least int; so are NULL, CAST, INDEX (count() 8 tells).");
        BrideDoors x = new BrideDoors();
        for (int s : new int[] {-1, 4, LEAST, MOST}) getFinds("sheet " + s, x, s, 0, 0, 0);
        for (int form : new int[] {-1, 3, LEAST, MOST}) getFinds("BAD is ahead of NULL", x, 0, form, 0, 0);
        getFinds("NULL is ahead of INDEX", x, 0, 0, -1, 1);
        Check.fill(x, 0, 2, 5, LEAST);
        getFinds("BAD leaves the number", x, 0, 3, 0, 1);
        getFinds("CAST is ahead of INDEX", x, 0, 1, 2, 3);
        getFinds("INDEX", x, 0, 2, 2, 2);
        getFinds("CAST", x, 0, 0, 0, 3);
        getFinds("INDEX", x, 0, 2, -1, 2);
        getFinds("BAD leaves the number", x, 4, 0, 0, 2);
        getFinds("an item that is the least int leaves the number", x, 0, 2, 1, 2);
        check.due("the first item", x.get(0, 2, 0), 5);
        x.lose(0);
        getFinds("NULL", x, 0, 2, 0, 1);
    }

    private static void copy() {
        check.sentence("BAD: the SHEETS; NULL: s, t; STORE; INDEX: below 0, not so many");
        BrideDoors x = new BrideDoors();
        x.sheet(0, 0, 3);
        x.sheet(1, 1, 3);
        for (int s : new int[] {-1, 4, LEAST, MOST}) {
            check.due("s " + s, x.copy(s, 0, 0, 0, 1), BAD);
            check.due("t " + s, x.copy(0, 0, s, 0, 1), BAD);
            check.due("BAD is ahead of NULL", x.copy(s, 0, 2, 0, 1), BAD);
            check.due("BAD is ahead of NULL", x.copy(2, 0, s, 0, 1), BAD);
        }
        check.due("BAD is no finding", x.count(8), 0);
        found("s is lost", x, x.copy(2, 0, 0, 0, 1), NULL);
        found("t is lost", x, x.copy(0, 0, 2, 0, 1), NULL);
        found("both are lost", x, x.copy(2, 0, 3, 0, 1), NULL);
        found("one, which is both, is lost", x, x.copy(2, 0, 2, 0, 0), NULL);
        found("NULL is ahead of INDEX", x, x.copy(0, -1, 2, 0, 1), NULL);
        found("STORE is ahead of INDEX", x, x.copy(0, -1, 1, 0, 1), STORE);
        found("STORE is ahead of INDEX", x, x.copy(0, 0, 1, 0, 4), STORE);
        found("INDEX", x, x.copy(0, 0, 0, 0, 4), INDEX);
        check.due("all of it", x.copy(0, 0, 0, 0, 3), 1);
    }

    private static void copyAsTheyWere() {
        check.sentence("n items of SHEET s, from i on, come to SHEET t (perhaps s, as they were), from j on: 1.");
        for (int form = 0; form < 3; form++) {
            for (int i = 0; i <= 6; i++) {
                for (int j = 0; j <= 6; j++) {
                    for (int n = 0; n <= 6 - Math.max(i, j); n++) {
                        BrideDoors x = new BrideDoors();
                        Check.fill(x, 3, form, 1, 2, 3, 4, 5, 6);
                        int[] want = {1, 2, 3, 4, 5, 6};
                        for (int k = 0; k < n; k++) want[j + k] = i + k + 1;
                        check.due("copy(3, " + i + ", 3, " + j + ", " + n + ")", x.copy(3, i, 3, j, n), 1);
                        items("as they were", x, 3, form, want);
                    }
                }
            }
        }
        BrideDoors other = new BrideDoors();
        Check.fill(other, 0, 1, 1, 2, 3);
        Check.fill(other, 1, 1, 7, 8, 9, 10);
        check.due("the last two", other.copy(0, 1, 1, 2, 2), 1);
        items("to", other, 1, 1, 7, 8, 2, 3);
        items("from", other, 0, 1, 1, 2, 3);
        check.due("nothing is found", other.count(8), 0);
    }

    private static void copyIndex() {
        check.sentence("INDEX: below 0, not so many");
        // 4 items in sheet 0, 3 in sheet 1
        int[][] wrong = {{-1, 0, 1}, {0, -1, 1}, {0, 0, -1}, {0, 0, 4}, {2, 0, 3}, {0, 1, 3}, {4, 0, 1}, {0, 3, 1}, {1, 3, 1}, {-1, -1, -1},
            {LEAST, 0, 0}, {0, LEAST, 0}, {0, 0, LEAST}, {MOST, 0, 1}, {0, MOST, 1}, {0, 0, MOST}, {1, 0, MOST}, {0, 1, MOST},
            {MOST, MOST, MOST}, {MOST, 0, MOST}, {1, 1, LEAST}, {MOST, MOST, 2}, {LEAST, LEAST, LEAST}};
        for (int[] a : wrong) {
            BrideDoors x = new BrideDoors();
            Check.fill(x, 0, 2, 1, 2, 3, 4);
            Check.fill(x, 1, 2, 5, 6, 7);
            String call = "copy(0, " + a[0] + ", 1, " + a[1] + ", " + a[2] + ")";
            found(call, x, x.copy(0, a[0], 1, a[1], a[2]), INDEX);
            items(call + " leaves s", x, 0, 2, 1, 2, 3, 4);
            items(call + " leaves t", x, 1, 2, 5, 6, 7);
        }
        BrideDoors x = new BrideDoors();
        x.sheet(0, 2, 4);
        x.sheet(1, 2, 3);
        check.due("just as many", x.copy(0, 0, 1, 0, 3), 1);
        check.due("up to the end of s", x.copy(0, 3, 1, 0, 1), 1);
        check.due("up to the end of t", x.copy(0, 0, 1, 2, 1), 1);
        check.due("up to both ends", x.copy(0, 1, 1, 0, 3), 1);
        check.due("nothing is found", x.count(8), 0);
    }

    private static void copyNoItems() {
        check.sentence("(with n 0, too, if i or j is above how many there are)");
        BrideDoors x = new BrideDoors();
        x.sheet(0, 2, 4);
        x.sheet(1, 2, 3);
        x.sheet(2, 2, 0);
        check.due("from 0 to 0", x.copy(0, 0, 1, 0, 0), 1);
        check.due("from the end to the end", x.copy(0, 4, 1, 3, 0), 1);
        check.due("of a row without items", x.copy(2, 0, 2, 0, 0), 1);
        check.due("nothing is found", x.count(8), 0);
        int[][] wrong = {{5, 0}, {0, 4}, {5, 4}, {-1, 0}, {0, -1}, {MOST, 0}, {0, MOST}};
        for (int[] a : wrong) found("copy(0, " + a[0] + ", 1, " + a[1] + ", 0)", x, x.copy(0, a[0], 1, a[1], 0), INDEX);
        found("behind a row without items", x, x.copy(2, 1, 2, 0, 0), INDEX);
        found("behind a row without items", x, x.copy(2, 0, 2, 1, 0), INDEX);
    }

    private static void write() {
        check.sentence("from item 0 on, as many as there are items, 24 at most: how many. BAD; NULL.");
        int[] sizes = {0, 1, 2, 23, 24, 25, 60};
        for (int form = 0; form < 3; form++) {
            for (int size : sizes) {
                BrideDoors x = Check.told("sj;sa", "0b8e;0x8j", 1, 22, 0);
                x.sheet(0, form, size);
                for (int i = 0; i < size; i++) x.lay(0, form, i, 99);
                check.due(size + " items", x.write(0, 0), Math.min(size, 24));
                for (int i = 0; i < size; i++) {
                    int gap = i == 0 ? 10 : i < 22 ? 5 : i == 22 ? 6 : 0;
                    check.due("item " + i + " of " + size, x.get(0, form, i), i < 24 ? gap : 99);
                }
                check.due("no finding", x.count(8), 0);
            }
        }
        BrideDoors x = Check.told("sj;sa", "");
        x.sheet(3, 0, 1);
        check.due("the last house", x.write(1, 3), 1);
        check.due("its gap", x.get(3, 0, 0), 1);
        for (int h : new int[] {-1, 2, 5, 6, LEAST, MOST}) {
            check.due("house " + h, x.write(h, 3), BAD);
            check.due("BAD is ahead of NULL", x.write(h, 0), BAD);
        }
        for (int s : new int[] {-1, 4, LEAST, MOST}) check.due("sheet " + s, x.write(0, s), BAD);
        check.due("BAD is no finding", x.count(8), 0);
        check.due("and writes nothing", x.get(3, 0, 0), 1);
        found("a lost sheet", x, x.write(0, 0), NULL);
        check.due("no houses", new BrideDoors().write(0, 0), BAD);
    }

    private static void writeGaps() {
        check.sentence("The GAP of a HOUSE behind YEARS 0 on comes to a SHEET");
        BrideDoors x = Check.told("wf;tc", "0a8t;1b8e;1x8t;0d0a", 0, 2, 1, 1, 3, 0, 2, 22, 0, 2, 23, 0);
        x.sheet(2, 1, 24);
        for (int h = 0; h < 2; h++) {
            check.due("write(" + h + ", 2)", x.write(h, 2), 24);
            for (int year = 0; year <= 23; year++) {
                check.due("of house " + h + " behind " + year, x.get(2, 1, year), x.at(year, h, 4));
            }
        }
        int[] gaps = {3, 0, 5, 5};
        items("of turf", x, 2, 1, gaps);
        check.due("of turf, behind the last", x.get(2, 1, 23), 0);
    }

    /** No gap is above 20, so that the lowest bits of each are all of it. */
    private static void writeLowestBits() {
        check.sentence("(of each the lowest bits that an item has, with its sign)");
        for (int form = 0; form < 3; form++) {
            BrideDoors x = Check.told("st;ta", "1a8t", 0, 5, 1);
            x.sheet(0, form, 24);
            x.write(0, 0);
            check.due("the greatest gap", x.get(0, form, 23), 20);
            x.write(1, 0);
            check.due("the least gap", x.get(0, form, 0), 0);
            check.due("the greatest gap of turf", x.get(0, form, 5), 20);
            for (int i = 0; i < 24; i++) check.due("item " + i, x.get(0, form, i), i < 5 ? 0 : 20);
        }
    }
}
