/** Each sentence of the passage '======== 2' that names an edge, and promises 11 to 17. */
public final class YearEdgesTest {
    private static final int NONE = -1, BAD = -2;
    private static final int[] FAR = {Integer.MIN_VALUE, Integer.MAX_VALUE};
    private static final String SIX = "st;st;st;st;st;st";
    private static final Check check = new Check();

    public static void main(String[] args) {
        behindAYear();
        noneHangs();
        whatADoorIs();
        howHighItIs();
        sawnInAll();
        draughtBehindAYear();
        dog();
        dogsGap();
        dogsHouse();
        kin();
        kinGoRound();
        lowest();
        open();
        moor();
        at();
        door();
        draught();
        dogCall();
        kinCall();
        lowestCall();
        left();
        check.finish();
    }

    private static void house(String what, BrideDoors x, int year, int house, int... want) {
        for (int i = 0; i < want.length; i++) {
            check.due(what + ": at(" + year + ", " + house + ", " + i + ")", x.at(year, house, i), want[i]);
        }
    }

    private static void doorIs(String what, BrideDoors x, int year, int bride, int... want) {
        for (int i = 0; i < want.length; i++) {
            check.due(what + ": door(" + year + ", " + bride + ", " + i + ")", x.door(year, bride, i), want[i]);
        }
    }

    private static void behindAYear() {
        check.sentence("Behind a YEAR of a HOUSE: how high it OPENS; how many doors hang in it");
        BrideDoors x = Check.told("te", "0a8f;0b8h;0x8t", 0, 23, 0);
        house("behind the first", x, 0, 0, 6, 1, 6, 6, 0);
        house("behind the next", x, 1, 0, 8, 2, 8, 6, 0);
        house("ahead of the last", x, 22, 0, 8, 2, 8, 6, 0);
        house("behind the last", x, 23, 0, 20, 2, 20, 6, 0);
        BrideDoors all = Check.told("sa", "0a8a;0a8a;0a8a;0a8a;0a8a;0a8a;0a8a;0a8a");
        house("all eight in one", all, 0, 0, 1, 8, 1, 1, 0);
    }

    private static void noneHangs() {
        check.sentence("the highest (0: none); the lowest (0: none); the GAP");
        house("no brides", Check.told("sj", ""), 0, 0, 10, 0, 0, 0, 10);
        house("she comes elsewhere", Check.told("sj;sj", "1a8j"), 23, 0, 10, 0, 0, 0, 10);
        house("she brings none", Check.told("sj", "0a0j"), 23, 0, 10, 0, 0, 0, 10);
        BrideDoors x = Check.told("sj", "0b8a;0b8d", 0, 2, 0, 2, 3, 0);
        house("ahead of them", x, 0, 0, 10, 0, 0, 0, 10);
        house("both hang", x, 1, 0, 10, 2, 4, 1, 6);
        house("the lowest is left", x, 2, 0, 10, 1, 1, 1, 9);
        house("none is left", x, 3, 0, 10, 0, 0, 0, 10);
    }

    private static void whatADoorIs() {
        check.sentence("what her door is (0 she has not come, 1 it hangs, 2 BURNT, 3 on the MOOR, 4 she brought none)");
        BrideDoors x = Check.told("st;st;st", "0b8j;1b8j;2b8j;2b3j;5b8j", 0, 3, 0, 2, 3, 1);
        int[][] want = {{0, 0, 0, 0, 0}, {1, 1, 1, 4, 0}, {1, 1, 1, 4, 0}, {2, 3, 1, 4, 0}, {2, 3, 1, 4, 0}};
        int[] years = {0, 1, 2, 3, 23};
        for (int i = 0; i < years.length; i++) {
            for (int b = 0; b < 5; b++) {
                check.due("behind " + years[i] + " of " + b, x.door(years[i], b, 0), want[i][b]);
            }
        }
        check.due("in the last year she comes", Check.told("st", "0x8j").door(22, 0, 0), 0);
        check.due("in the last year she comes", Check.told("st", "0x8j").door(23, 0, 0), 1);
    }

    private static void howHighItIs() {
        check.sentence("how high it is (0 of 0, 4; of others as it was last)");
        BrideDoors x = Check.told("sh;sh;sh", "0b8j;1b8j;2b3j;5b8j", 1, 2, 0, 1, 2, 1, 0, 3, 0, 2, 3, 1, 1, 4, 0, 1, 4, 1);
        int[][] want = {{0, 0, 0, 0}, {8, 8, 0, 0}, {7, 7, 0, 0}, {7, 7, 0, 0}, {7, 7, 0, 0}};
        for (int year = 0; year < 5; year++) {
            for (int b = 0; b < 4; b++) {
                check.due("behind " + year + " of " + b, x.door(year, b, 1), want[year][b]);
            }
        }
        check.due("at the end", x.door(23, 0, 1), 7);
        check.due("at the end", x.door(23, 1, 1), 7);
        check.due("and ahead of her, asked behind that", x.door(0, 0, 1), 0);
        check.due("and of one who brings none", x.door(23, 2, 1), 0);
    }

    private static void sawnInAll() {
        check.sentence("how much was sawn off in all (as she came: what was higher than the HOUSE OPENS; and by CARPENTERS)");
        BrideDoors x = Check.told("sc;wc;tc", "0b8e;1b8f;2b8g", 1, 2, 0, 1, 2, 1, 1, 2, 2, 1, 3, 0, 1, 4, 0);
        int[][] want = {{0, 0, 0}, {2, 1, 0}, {3, 2, 1}, {4, 2, 1}, {4, 2, 1}};
        for (int year = 0; year < 5; year++) {
            for (int b = 0; b < 3; b++) {
                check.due("behind " + year + " of " + b, x.door(year, b, 2), want[year][b]);
            }
        }
        check.due("of a door of 1 a carpenter takes nothing", x.door(4, 0, 1), 1);
        check.due("ahead of her nothing, asked behind that", x.door(0, 0, 2), 0);
        check.due("the most", Check.told("sa", "0a8t").door(0, 0, 2), 19);
        doorIs("what her mother's lost does not count", Check.told("sc;st", "0a8i;1b0a"), 1, 1, 1, 1, 0);
        doorIs("of what is burnt it stays", Check.told("sc", "0a8e", 0, 1, 0), 23, 0, 2, 3, 2);
    }

    private static void draughtBehindAYear() {
        check.sentence("DRAUGHT behind a YEAR.");
        BrideDoors x = Check.told("sj;tc", "0c8j;1x8t", 1, 0, 0, 1, 5, 0, 0, 23, 0);
        for (int year = 0; year <= 23; year++) {
            int want = year < 2 ? 13 : year < 5 ? 3 : year < 23 ? 4 : 10;
            check.due("behind " + year, x.draught(year), want);
        }
    }

    private static void dog() {
        check.sentence("the first YEAR behind which a HOUSE in which a door hangs has a GAP of 5 or more");
        check.due("in the first", Check.told("st", "0a8a").dog(0), 0);
        check.due("in the last", Check.told("st", "0x8a").dog(0), 23);
        check.due("a door a year later", Check.told("st;st", "1b8a;0c8a").dog(0), 1);
        check.due("the house of it", Check.told("st;st", "1b8a;0c8a").dog(1), 1);
        check.due("only for a while", Check.told("sf", "0c8a;0d8f").dog(0), 2);
        check.due("no door hangs any more", Check.told("sf", "0c8f", 0, 3, 0).dog(0), NONE);
        check.due("no door hangs", Check.told("st", "").dog(0), NONE);
        check.due("of a door that nobody brought", Check.told("st", "0a0a").dog(0), NONE);
    }

    private static void dogsGap() {
        check.sentence("has a GAP of 5 or more");
        int[] want = {NONE, NONE, 2, 2};
        for (int i = 0; i < want.length; i++) {
            String door = "0c8" + (char) ('g' - i);
            check.due("a gap of " + (3 + i), Check.told("sj", door).dog(0), want[i]);
        }
        check.due("a carpenter makes it 5", Check.told("sj", "0a8f", 1, 9, 0).dog(0), 9);
        check.due("the highest door counts", Check.told("sj", "0a8a;0a8f").dog(0), NONE);
    }

    private static void dogsHouse() {
        check.sentence("the least such HOUSE; NONE");
        check.due("of three", Check.told(SIX, "5a8a;3a8a;4a8a").dog(1), 3);
        check.due("the first", Check.told(SIX, "5a8a;0a8a").dog(1), 0);
        check.due("the last", Check.told(SIX, "5a8a").dog(1), 5);
        check.due("an open one below it does not count", Check.told("st;sj;st", "2a8a;1a8f").dog(1), 2);
        check.due("a lesser one, but later", Check.told("st;st", "0c8a;1b8a").dog(1), 1);
        check.due("none", Check.told("st", "").dog(1), NONE);
        check.due("no houses", Check.told("", "0a8a").dog(1), NONE);
    }

    private static void kin() {
        check.sentence("how many of her MOTHER, that one's MOTHER, and so on, are among BRIDES");
        BrideDoors row = Check.told("", "0a8a;0a0a;0a1a;0a2a;0a3a;0a4a;0a5a;0a6a");
        for (int b = 0; b < 8; b++) {
            check.due("a row, of " + b, row.kin(b), b);
        }
        check.due("told with 8", Check.told("", "0a8a").kin(0), 0);
        for (int mother = 1; mother <= 7; mother++) {
            check.due("one that there is not", Check.told("", "0a" + mother + "a").kin(0), 0);
        }
        check.due("whose mother is not there", Check.told("", "0a7a;0a0a").kin(1), 1);
        check.due("she need not come, nor be there first", Check.told("", "0a1a;5x8a").kin(0), 1);
    }

    private static void kinGoRound() {
        check.sentence("(where they go round, one that comes again counts again, 8 at most in all)");
        check.due("herself", Check.told("", "0a0a").kin(0), 8);
        BrideDoors two = Check.told("", "0a1a;0a0a;0a0a;0a2a");
        for (int b = 0; b < 4; b++) {
            check.due("two go round, of " + b, two.kin(b), 8);
        }
        BrideDoors eight = Check.told("", "0a1a;0a2a;0a3a;0a4a;0a5a;0a6a;0a7a;0a0a");
        for (int b = 0; b < 8; b++) {
            check.due("eight go round, of " + b, eight.kin(b), 8);
        }
        BrideDoors behind = Check.told("", "0a0a;0a0a;0a1a;0a2a;0a3a;0a4a;0a5a;0a6a");
        check.due("seven, then one that goes round", behind.kin(7), 8);
        check.due("the eighth without", Check.told("", "0a8a;0a0a;0a1a;0a2a;0a3a;0a4a;0a5a;0a6a").kin(7), 7);
    }

    private static void lowest() {
        check.sentence("who has the lowest door of those that hang behind YEAR 23, of like ones the least; NONE");
        check.due("of like ones", Check.told("st;st", "1a8d;0a8c;1a8c").lowest(), 1);
        check.due("the last of eight", Check.told("st", "0a8b;0a8b;0a8b;0a8b;0a8b;0a8b;0a8b;0a8a").lowest(), 7);
        check.due("she comes in the last year", Check.told("st", "0a8b;0x8a").lowest(), 1);
        check.due("hers is stolen in the last year", Check.told("st", "0a8b;0a8a", 2, 23, 0).lowest(), 0);
        check.due("hers is burnt", Check.told("st;st", "0a8b;1a8a", 0, 23, 1).lowest(), 0);
        check.due("one brought none", Check.told("st", "0a0a;0a8t").lowest(), 1);
        check.due("one has not come", Check.told("st", "1a8a;0a8t").lowest(), 1);
        check.due("none hangs", Check.told("st", "0a8a", 0, 1, 0).lowest(), NONE);
        check.due("no brides", Check.told("st", "").lowest(), NONE);
        check.due("no houses", Check.told("", "0a8a").lowest(), NONE);
    }

    private static void open() {
        check.sentence("OPEN: HOUSES in which no door hangs behind YEAR 23, as bits.");
        check.due("all six", Check.told(SIX, "").left(0), 63);
        check.due("the first is not", Check.told(SIX, "0x8a").left(0), 62);
        check.due("the last is not", Check.told(SIX, "5x8a").left(0), 31);
        check.due("none of six", Check.told(SIX, "0a8a;1a8a;2a8a;3a8a;4a8a;5a8a").left(0), 0);
        check.due("burnt in the last year", Check.told("st", "0a8a", 0, 23, 0).left(0), 1);
        check.due("stolen in the last year", Check.told("st", "0a8a", 2, 23, 0).left(0), 1);
        check.due("one of two burnt", Check.told("st", "0a8a;0a8a", 0, 23, 0).left(0), 0);
        check.due("she brought none", Check.told("st", "0a0a").left(0), 1);
        check.due("no houses", Check.told("", "0a8a").left(0), 0);
    }

    private static void moor() {
        check.sentence("MOOR: whose doors are there behind it, as bits.");
        BrideDoors all = Check.told("st", "0a8a;0a8b;0a8c;0a8d;0a8e;0a8f;0a8g;0a8h");
        int want = 0;
        for (int i = 0; i < 8; i++) {
            check.due("ahead of the burglar", all.left(1), want);
            all.event(2, 23, 0);
            want |= 1 << i;
        }
        check.due("all eight", all.left(1), 255);
        check.due("the last alone", Check.told("st", "0a8b;0a8b;0a8b;0a8b;0a8b;0a8b;0a8b;0a8a", 2, 1, 0).left(1), 128);
        check.due("what is burnt is not there", Check.told("st", "0a8a", 0, 1, 0).left(1), 0);
        check.due("no brides", Check.told("st", "", 2, 1, 0).left(1), 0);
    }

    private static void at() {
        check.sentence("How high it OPENS (what = 0), how many doors (1), the highest (2), the lowest (3), the GAP (4). BAD.");
        BrideDoors x = Check.told("sj;sj", "0a8c;0a8e");
        house("the first year", x, 0, 0, 10, 2, 5, 3, 5);
        house("the last year", x, 23, 0, 10, 2, 5, 3, 5);
        house("the last house", x, 23, 1, 10, 0, 0, 0, 10);
        for (int year : new int[] {-1, 24, FAR[0], FAR[1]}) check.due("year " + year, x.at(year, 0, 0), BAD);
        for (int h : new int[] {-1, 2, 5, 6, FAR[0], FAR[1]}) check.due("house " + h, x.at(0, h, 0), BAD);
        for (int what : new int[] {-1, 5, FAR[0], FAR[1]}) check.due("what " + what, x.at(0, 0, what), BAD);
        check.due("no houses", Check.told("", "0a8a").at(0, 0, 0), BAD);
    }

    private static void door() {
        check.sentence("What it is (what = 0: 0 to 4), how high (1), how much was sawn off (2) of a door. BAD.");
        BrideDoors x = Check.told("sc", "0a8e;0x8d");
        doorIs("the first year", x, 0, 0, 1, 3, 2);
        doorIs("the last year", x, 23, 1, 1, 3, 1);
        for (int year : new int[] {-1, 24, FAR[0], FAR[1]}) check.due("year " + year, x.door(year, 0, 0), BAD);
        for (int b : new int[] {-1, 2, 7, 8, FAR[0], FAR[1]}) check.due("bride " + b, x.door(0, b, 0), BAD);
        for (int what : new int[] {-1, 3, FAR[0], FAR[1]}) check.due("what " + what, x.door(0, 0, what), BAD);
        check.due("no brides", Check.told("sc", "").door(0, 0, 0), BAD);
    }

    private static void draught() {
        check.sentence("`int draught(int year)`: DRAUGHT. BAD.");
        BrideDoors x = Check.told("sj;sj", "0a8c;1x8j");
        check.due("the first year", x.draught(0), 17);
        check.due("the one ahead of the last", x.draught(22), 17);
        check.due("the last year", x.draught(23), 7);
        for (int year : new int[] {-1, 24, FAR[0], FAR[1]}) check.due("year " + year, x.draught(year), BAD);
        check.due("no houses", new BrideDoors().draught(0), 0);
        check.due("no houses, no year", new BrideDoors().draught(24), BAD);
    }

    private static void dogCall() {
        check.sentence("DOG: the YEAR (what = 0), the HOUSE (1); NONE. BAD.");
        BrideDoors x = Check.told("sa;sj", "1c8e;0a8a");
        check.due("dog(0)", x.dog(0), 2);
        check.due("dog(1)", x.dog(1), 1);
        for (int what : new int[] {-1, 2, FAR[0], FAR[1]}) {
            check.due("dog(" + what + ")", x.dog(what), BAD);
            check.due("BAD is ahead of NONE", new BrideDoors().dog(what), BAD);
        }
        check.due("none", new BrideDoors().dog(0), NONE);
        check.due("none", new BrideDoors().dog(1), NONE);
    }

    private static void kinCall() {
        check.sentence("`int kin(int bride)`: KIN. BAD.");
        BrideDoors x = Check.told("", "0a8a;0a0a");
        check.due("kin(0)", x.kin(0), 0);
        check.due("kin(1)", x.kin(1), 1);
        for (int b : new int[] {-1, 2, 7, 8, FAR[0], FAR[1]}) check.due("kin(" + b + ")", x.kin(b), BAD);
        check.due("no brides", new BrideDoors().kin(0), BAD);
    }

    private static void lowestCall() {
        check.sentence("`int lowest()`: LOWEST; NONE.");
        check.due("one", Check.told("st", "0a8a").lowest(), 0);
        check.due("none", new BrideDoors().lowest(), NONE);
    }

    private static void left() {
        check.sentence("OPEN (what = 0), MOOR (1), as bits. BAD.");
        BrideDoors x = Check.told("st;st", "0a8a;0a8a", 2, 1, 0);
        check.due("left(0)", x.left(0), 2);
        check.due("left(1)", x.left(1), 1);
        for (int what : new int[] {-1, 2, FAR[0], FAR[1]}) check.due("left(" + what + ")", x.left(what), BAD);
    }
}
