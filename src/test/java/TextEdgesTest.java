/** Each sentence about texts that names an edge: of 'What it is', of 'Terms', promises 1 to 7. */
public final class TextEdgesTest {
    private static final int NONE = -1, BAD = -2, NOT = -3, FULL = -4;
    private static final String SIX = "sa;wb;tc;sd;we;tt";
    private static final String EIGHT = "0a8a;1b0b;2c1c;3d2d;4e3e;5f4f;0w5s;1x7t";
    private static final Check check = new Check();

    public static void main(String[] args) {
        bytesOfHouses();
        manyHouses();
        sorts();
        letters();
        bytesOfBrides();
        manyBrides();
        bridesHouse();
        bridesYear();
        bridesMother();
        bridesHigh();
        between();
        firstByteThatCannotGoOn();
        emptyIsWell();
        notEnded();
        seventhAndNinth();
        asIfEmpty();
        newObject();
        type();
        wipe();
        undo();
        fault();
        house();
        bride();
        callsOfOneObject();
        check.finish();
    }

    private static BrideDoors written(int text, String signs) {
        return text == 0 ? Check.told(signs, "") : Check.told("", signs);
    }

    private static void faultIs(int text, String signs, int want) {
        check.due("fault of '" + signs + "'", written(text, signs).fault(text), want);
    }

    /** Every byte at one place, with what stands ahead and behind: well if it is one of some, else the fault. */
    private static void onlyThese(int text, String ahead, String these, String behind) {
        for (int b = 0; b < 256; b++) {
            boolean well = these.indexOf((char) b) >= 0;
            faultIs(text, ahead + (char) b + behind, well ? NONE : ahead.length());
        }
    }

    private static void fillsUp(int text, int most) {
        BrideDoors x = new BrideDoors();
        for (int i = 1; i <= most; i++) {
            check.due("byte " + i + " is taken", x.type(text, 'z'), i);
        }
        check.due("one byte more", x.type(text, 'z'), FULL);
        check.due("again", x.type(text, ';'), FULL);
        check.due("bytes", x.count(2 + text), most);
        check.due("the other text has room", x.type(1 - text, 'z'), 1);
        check.due("one byte less", x.undo(text), most - 1);
        check.due("there is room again", x.type(text, 'z'), most);
        check.due("and none", x.type(text, 'z'), FULL);
    }

    private static void bytesOfHouses() {
        check.sentence("HOUSES are a text of up to 17 bytes (text 0)");
        fillsUp(0, 17);
    }

    private static void manyHouses() {
        check.sentence("6 at most (0 on), with ; between them: s (stone), w (wood) or t (turf)");
        for (int many = 0; many <= 6; many++) {
            BrideDoors x = written(0, many == 0 ? "" : SIX.substring(0, 3 * many - 1));
            check.due("houses", x.count(0), many);
            for (int h = 0; h <= 6; h++) {
                check.due("the sort of " + h + " of " + many, x.house(h, 0), h < many ? h % 3 : BAD);
            }
            check.due("the one ahead of the first", x.house(-1, 0), BAD);
        }
    }

    private static void sorts() {
        check.sentence("s (stone), w (wood) or t (turf)");
        onlyThese(0, "", "swt", "a");
        onlyThese(0, "tt;", "swt", "t;wa");
        check.due("s", written(0, "sa").house(0, 0), 0);
        check.due("w", written(0, "wa").house(0, 0), 1);
        check.due("t", written(0, "ta").house(0, 0), 2);
    }

    private static void letters() {
        check.sentence("a letter a to t, how high it OPENS (a 1, t 20)");
        onlyThese(0, "s", "abcdefghijklmnopqrst", "");
        onlyThese(0, "sa;t", "abcdefghijklmnopqrst", ";wb");
        for (int high = 1; high <= 20; high++) {
            check.due("how high", written(0, "w" + (char) ('a' + high - 1)).house(0, 1), high);
        }
    }

    private static void bytesOfBrides() {
        check.sentence("BRIDES are a text of up to 39 bytes (text 1)");
        fillsUp(1, 39);
    }

    private static void manyBrides() {
        check.sentence("8 at most (0 on), with ; between them: a figure 0 to 5");
        for (int many = 0; many <= 8; many++) {
            BrideDoors x = written(1, many == 0 ? "" : EIGHT.substring(0, 5 * many - 1));
            check.due("brides", x.count(1), many);
            for (int b = 0; b <= 8; b++) {
                check.due("the house of " + b + " of " + many, x.bride(b, 0), b < many ? b % 6 : BAD);
            }
            check.due("the one ahead of the first", x.bride(-1, 0), BAD);
        }
    }

    private static void bridesHouse() {
        check.sentence("a figure 0 to 5, the HOUSE");
        onlyThese(1, "", "012345", "a8a");
        onlyThese(1, "0a8a;", "012345", "a8a;0a8a");
        check.due("0", written(1, "0a8a").bride(0, 0), 0);
        check.due("5", written(1, "5a8a").bride(0, 0), 5);
    }

    private static void bridesYear() {
        check.sentence("a letter a to x, the YEAR (0 to 23)");
        onlyThese(1, "0", "abcdefghijklmnopqrstuvwx", "8a");
        for (int year = 0; year <= 23; year++) {
            check.due("the year", written(1, "0" + (char) ('a' + year) + "8a").bride(0, 1), year);
        }
    }

    private static void bridesMother() {
        check.sentence("a figure 0 to 8, her MOTHER among BRIDES (8: none of them)");
        onlyThese(1, "0a", "012345678", "a");
        for (int mother = 0; mother <= 8; mother++) {
            BrideDoors x = Check.told("st", "0b" + mother + "j");
            check.due("the mother", x.bride(0, 2), mother);
            check.due("her door hangs only if she has none", x.door(1, 0, 0), mother == 8 ? 1 : 4);
        }
        BrideDoors eight = Check.told("st", "0a7t;0a8t;0a8t;0a8t;0a8t;0a8t;0b7t;0a8f");
        check.due("7 is the eighth of them", eight.door(1, 6, 1), 4);
    }

    private static void bridesHigh() {
        check.sentence("how HIGH a door she has of her own (1 to 20; it counts of one told with 8 alone)");
        onlyThese(1, "0a8", "abcdefghijklmnopqrst", "");
        for (int high = 1; high <= 20; high++) {
            char letter = (char) ('a' + high - 1);
            BrideDoors x = Check.told("st;st", "0a8" + letter + ";1b2" + letter + ";1a8j;1b0" + letter);
            check.due("how high, as told", x.bride(0, 3), high);
            check.due("of one told with 8", x.door(1, 0, 1), high);
            check.due("of one told with 2: her mother's, less 2", x.door(1, 1, 1), 8);
            check.due("it is told all the same", x.bride(1, 3), high);
        }
    }

    private static void between() {
        check.sentence("with ; between them");
        onlyThese(0, "sa", ";", "sb");
        onlyThese(0, "sa;wb;tc;sd;we", ";", "tf");
        onlyThese(1, "0a8a", ";", "0a8a");
        onlyThese(1, EIGHT.substring(0, 34), ";", EIGHT.substring(35));
        faultIs(0, ";sa", 0);
        faultIs(1, ";0a8a", 0);
        faultIs(0, "sa;;sb", 3);
        faultIs(1, "0a8a;;0a8a", 5);
    }

    private static void firstByteThatCannotGoOn() {
        check.sentence("The FAULT of a text is the place of the first byte with which it cannot go on");
        String[] well = {SIX, EIGHT};
        for (int text = 0; text < 2; text++) {
            for (int place = 0; place < well[text].length(); place++) {
                String ahead = well[text].substring(0, place);
                faultIs(text, ahead + 'z', place);
                faultIs(text, ahead + 'z' + well[text].substring(place + 1), place);
                faultIs(text, ahead + "zz", place);
                if (place > 0) {
                    faultIs(text, well[text].substring(0, place - 1) + "zz", place - 1);
                }
            }
        }
    }

    private static void emptyIsWell() {
        check.sentence("an empty one is well");
        for (int text = 0; text < 2; text++) {
            BrideDoors x = new BrideDoors();
            check.due("of a new object", x.fault(text), NONE);
            x.type(text, 'z');
            check.due("a wrong byte", x.fault(text), 0);
            x.undo(text);
            check.due("which is undone", x.fault(text), NONE);
            check.due("and tells nothing", x.count(text), 0);
            x.type(text, 'z');
            x.wipe(text);
            check.due("or wiped", x.fault(text), NONE);
        }
    }

    private static void notEnded() {
        check.sentence("of one that is not ended, as behind a ;, its end");
        for (int length = 1; length <= 17; length++) {
            faultIs(0, SIX.substring(0, length), length % 3 == 2 ? NONE : length);
        }
        for (int length = 1; length <= 39; length++) {
            faultIs(1, EIGHT.substring(0, length), length % 5 == 4 ? NONE : length);
        }
    }

    /** No text has room for them: what can be asked is that the ; ahead of one does not come in. */
    private static void seventhAndNinth() {
        check.sentence("here also of the first byte of a seventh HOUSE, of a ninth of BRIDES");
        String[] well = {SIX, EIGHT};
        int[] most = {6, 8};
        for (int text = 0; text < 2; text++) {
            BrideDoors x = written(text, well[text]);
            check.due("the ; ahead of it", x.type(text, ';'), FULL);
            check.due("its first byte", x.type(text, well[text].charAt(0)), FULL);
            check.due("the text is well", x.fault(text), NONE);
            check.due("how many", x.count(text), most[text]);
        }
    }

    private static BrideDoors withEventsAndSeen(String houses, String brides) {
        BrideDoors x = Check.told(houses, brides, 0, 2, 0, 1, 3, 1, 2, 4, 2);
        x.seen(5, 1, 2);
        return x;
    }

    private static void asIfEmpty() {
        check.sentence("With a FAULT a text is as if it was empty.");
        String houses = "sh;wg;tc", brides = "0a8j;1b8k;2c0a";
        for (String fault : new String[] {";", "z", ";s", ";sz;sa"}) {
            check.holds("houses and '" + fault + "'", State.follows(() -> withEventsAndSeen(houses + fault, brides))
                .equals(State.follows(() -> withEventsAndSeen("", brides))));
            check.due("the bytes are there all the same", withEventsAndSeen(houses + fault, brides).count(2), 8 + fault.length());
        }
        for (String fault : new String[] {";", "z", ";0", ";0a8", ";0a8z;0a8a"}) {
            check.holds("brides and '" + fault + "'", State.follows(() -> withEventsAndSeen(houses, brides + fault))
                .equals(State.follows(() -> withEventsAndSeen(houses, ""))));
            check.due("the bytes are there all the same", withEventsAndSeen(houses, brides + fault).count(3), 14 + fault.length());
        }
        BrideDoors x = withEventsAndSeen(houses + "z", brides);
        check.due("no house", x.count(0), 0);
        check.due("a house", x.house(0, 0), BAD);
        check.due("a bride is there, but has no house to come to", x.door(23, 0, 0), 0);
        x.undo(0);
        check.due("the houses are back", x.count(0), 3);
        check.due("and she comes", x.door(0, 0, 0), 1);
        x.type(1, 'z');
        check.due("no bride", x.count(1), 0);
        check.due("a bride", x.bride(0, 0), BAD);
        check.due("no door", x.at(23, 0, 1), 0);
        x.undo(1);
        check.due("the brides are back", x.at(1, 1, 1), 1);
    }

    private static void newObject() {
        check.sentence("No HOUSES, no BRIDES, no EVENTS; all SHEETS are LOST.");
        for (int what = 0; what <= 8; what++) {
            check.due("count(" + what + ")", new BrideDoors().count(what), 0);
        }
        check.due("a house", new BrideDoors().house(0, 0), BAD);
        check.due("a bride", new BrideDoors().bride(0, 0), BAD);
        check.due("an event to undo", new BrideDoors().back(), NOT);
        for (int s = 0; s < 4; s++) {
            check.due("lose(" + s + ")", new BrideDoors().lose(s), -11);
        }
        BrideDoors first = Check.told(SIX, EIGHT, 0, 0, 0);
        first.sheet(0, 0, 3);
        BrideDoors second = new BrideDoors();
        check.due("another object has houses of its own", second.count(0), 0);
        check.due("and brides", second.count(1), 0);
        check.due("and events", second.count(4), 0);
        check.due("and sheets", second.lose(0), -11);
    }

    private static void type() {
        check.sentence("A byte (0 to 255) comes behind a text: how many. BAD; FULL.");
        BrideDoors x = new BrideDoors();
        for (int text = 0; text < 2; text++) {
            check.due("0", x.type(text, 0), 1);
            check.due("255", x.type(text, 255), 2);
            int[] wrong = {-1, 256, 256 + 's', 's' - 256, Integer.MIN_VALUE, Integer.MAX_VALUE};
            for (int b : wrong) {
                check.due("type(" + text + ", " + b + ")", x.type(text, b), BAD);
            }
            check.due("bytes", x.count(2 + text), 2);
        }
        for (int text : new int[] {-1, 2, Integer.MIN_VALUE, Integer.MAX_VALUE}) {
            check.due("type(" + text + ", 115)", x.type(text, 's'), BAD);
        }
        BrideDoors full = Check.told(SIX, EIGHT);
        check.due("BAD is ahead of FULL", full.type(0, -1), BAD);
        check.due("BAD is ahead of FULL", full.type(1, 256), BAD);
        check.due("BAD is ahead of FULL", full.type(2, ';'), BAD);
        check.due("FULL", full.type(0, 0), FULL);
        check.due("FULL", full.type(1, 255), FULL);
        check.due("the houses are as they were", full.house(5, 1), 20);
        check.due("the brides are as they were", full.bride(7, 3), 20);
        BrideDoors behind = Check.told("sa", "");
        check.due("; ends nothing", behind.type(0, ';'), 3);
        check.due("behind it", behind.type(0, 'w'), 4);
        check.due("behind it", behind.type(0, 't'), 5);
        check.due("the first stays", behind.house(0, 1), 1);
        check.due("the second comes behind", behind.house(1, 1), 20);
    }

    private static void wipe() {
        check.sentence("A text is empty: how many bytes it had. BAD.");
        BrideDoors x = Check.told(SIX, EIGHT);
        for (int text : new int[] {-1, 2, Integer.MIN_VALUE, Integer.MAX_VALUE}) {
            check.due("wipe(" + text + ")", x.wipe(text), BAD);
        }
        check.due("nothing is wiped, of houses", x.count(0), 6);
        check.due("nothing is wiped, of brides", x.count(1), 8);
        check.due("a full one", x.wipe(0), 17);
        check.due("an empty one", x.wipe(0), 0);
        check.due("brides are there still", x.count(1), 8);
        check.due("a full one", x.wipe(1), 39);
        check.due("an empty one", x.wipe(1), 0);
        for (int text = 0; text < 2; text++) {
            check.due("bytes", x.count(2 + text), 0);
            check.due("things", x.count(text), 0);
            check.due("a first byte again", x.type(text, 'z'), 1);
            check.due("one with a fault", x.wipe(text), 1);
        }
    }

    private static void undo() {
        check.sentence("The last byte of a text is undone: how many are left. BAD; NOT: it is empty.");
        String[] well = {SIX, EIGHT};
        for (int text = 0; text < 2; text++) {
            BrideDoors x = Check.told(SIX, EIGHT);
            for (int left = well[text].length() - 1; left >= 0; left--) {
                check.due("undo(" + text + ")", x.undo(text), left);
                int item = text == 0 ? 3 : 5;
                boolean ended = left % item == item - 1;
                check.due("what is left", x.count(text), ended ? (left + 1) / item : 0);
            }
            check.due("none is left", x.undo(text), NOT);
            check.due("again", x.undo(text), NOT);
            check.due("bytes", x.count(2 + text), 0);
            check.due("the other text is as it was", x.count(3 - text), well[1 - text].length());
        }
        for (int text : new int[] {-1, 2, Integer.MIN_VALUE, Integer.MAX_VALUE}) {
            check.due("undo(" + text + ") of a new object", new BrideDoors().undo(text), BAD);
            check.due("undo(" + text + ")", Check.told(SIX, EIGHT).undo(text), BAD);
        }
    }

    private static void fault() {
        check.sentence("The FAULT of a text; NONE. BAD.");
        BrideDoors x = Check.told(SIX, EIGHT.substring(0, 38));
        check.due("none", x.fault(0), NONE);
        check.due("at the end of 38 bytes", x.fault(1), 38);
        check.due("the first byte", Check.told("z", "").fault(0), 0);
        check.due("the last byte", Check.told(SIX.substring(0, 16) + "u", "").fault(0), 16);
        check.due("the last byte", Check.told("", EIGHT.substring(0, 38) + "u").fault(1), 38);
        for (int text : new int[] {-1, 2, Integer.MIN_VALUE, Integer.MAX_VALUE}) {
            check.due("fault(" + text + ")", x.fault(text), BAD);
        }
    }

    private static void house() {
        check.sentence("Its sort (what = 0: 0 s, 1 w, 2 t), how high it OPENS at first (1) of a HOUSE. BAD.");
        // all that comes would widen turf and wood: told is what stood at first
        BrideDoors x = Check.told("sa;wb;tc", "0a8t;1a8t;2a8t");
        for (int h = 0; h < 3; h++) {
            check.due("sort of " + h, x.house(h, 0), h);
            check.due("opens of " + h, x.house(h, 1), h + 1);
            for (int what : new int[] {-1, 2, Integer.MIN_VALUE, Integer.MAX_VALUE}) {
                check.due("house(" + h + ", " + what + ")", x.house(h, what), BAD);
            }
        }
        for (int h : new int[] {-1, 3, 6, Integer.MIN_VALUE, Integer.MAX_VALUE}) {
            check.due("house(" + h + ", 0)", x.house(h, 0), BAD);
            check.due("house(" + h + ", 1)", x.house(h, 1), BAD);
        }
        check.due("of no houses", new BrideDoors().house(0, 1), BAD);
    }

    private static void bride() {
        check.sentence("The HOUSE (what = 0), YEAR (1), MOTHER (2), how HIGH (3) of one of BRIDES as told. BAD.");
        // house 5 and mother 7 are not there, and none comes: it is told all the same
        BrideDoors x = Check.told("", "5x7t;0a0a");
        int[][] want = {{5, 23, 7, 20}, {0, 0, 0, 1}};
        for (int b = 0; b < 2; b++) {
            for (int what = 0; what < 4; what++) {
                check.due("bride(" + b + ", " + what + ")", x.bride(b, what), want[b][what]);
            }
            for (int what : new int[] {-1, 4, Integer.MIN_VALUE, Integer.MAX_VALUE}) {
                check.due("bride(" + b + ", " + what + ")", x.bride(b, what), BAD);
            }
        }
        for (int b : new int[] {-1, 2, 8, Integer.MIN_VALUE, Integer.MAX_VALUE}) {
            check.due("bride(" + b + ", 0)", x.bride(b, 0), BAD);
        }
        check.due("of no brides", new BrideDoors().bride(0, 0), BAD);
    }

    private static void callsOfOneObject() {
        check.sentence("An object is used for at most 512 calls after it has been made");
        BrideDoors x = new BrideDoors();
        int calls = 0;
        for (int i = 0; i < 255; i++, calls += 2) {
            check.due("type", x.type(0, 's'), 1);
            check.due("undo", x.undo(0), 0);
        }
        check.due("the 511th call", x.type(0, 's'), 1);
        check.due("the 512th call", x.type(0, 'a'), 2);
        check.due("calls", calls + 2, 512);
    }
}
