/** Each sentence of 'Terms' about years, events and doors that names an edge, and promises 8 to 10. */
public final class EventEdgesTest {
    private static final int BAD = -2, NOT = -3, FULL = -4;
    private static final int[] FAR = {Integer.MIN_VALUE, Integer.MAX_VALUE};
    private static final Check check = new Check();

    public static void main(String[] args) {
        years();
        eightEvents();
        kinds();
        nothingIsThere();
        eventsFirst();
        eventsAsTold();
        hardTimes();
        carpenter();
        burglar();
        bridesByNumbers();
        housesThatAreThere();
        ownDoor();
        lessTwo();
        motherHasCome();
        motherHerself();
        higherThanItOpens();
        turf();
        wood();
        sawnOff();
        gapWithoutDoor();
        event();
        back();
        read();
        readWhole();
        readMayBe();
        readRoom();
        readRefused();
        check.finish();
    }

    private static void door(String what, BrideDoors x, int year, int bride, int... want) {
        for (int i = 0; i < want.length; i++) {
            check.due(what + ": door(" + year + ", " + bride + ", " + i + ")", x.door(year, bride, i), want[i]);
        }
    }

    private static void years() {
        check.sentence("YEARS are 0 to 23.");
        BrideDoors x = Check.told("sj;sj", "0a8j;1x8j", 1, 0, 0, 1, 23, 0);
        check.due("behind the first", x.at(0, 0, 2), 10);
        check.due("behind the one ahead of the last", x.at(22, 0, 2), 10);
        check.due("behind the last", x.at(23, 0, 2), 9);
        check.due("one comes in the last", x.at(23, 1, 1), 1);
        check.due("and not ahead of it", x.at(22, 1, 1), 0);
        for (int year : new int[] {-1, 24, FAR[0], FAR[1]}) {
            check.due("at(" + year + ", 0, 0)", x.at(year, 0, 0), BAD);
            check.due("door(" + year + ", 0, 0)", x.door(year, 0, 0), BAD);
            check.due("draught(" + year + ")", x.draught(year), BAD);
            check.due("event(0, " + year + ", 0)", x.event(0, year, 0), BAD);
            check.due("seen(" + year + ", 0, 0)", x.seen(year, 0, 0), BAD);
        }
    }

    private static void eightEvents() {
        check.sentence("EVENTS, 8 at most (0 on)");
        BrideDoors x = Check.told("sj", "0a8j");
        for (int i = 1; i <= 7; i++) {
            check.due("event " + i, x.event(1, i, 5), i);
        }
        check.due("the eighth", x.event(0, 8, 0), 8);
        check.due("a ninth", x.event(1, 8, 0), FULL);
        check.due("again", x.event(2, 8, 0), FULL);
        check.due("how many", x.count(4), 8);
        check.due("the eighth is done", x.door(23, 0, 0), 2);
        check.due("its number", x.spare(0), 7);
        check.due("one less", x.back(), 7);
        check.due("there is room again", x.event(2, 8, 0), 8);
        check.due("and none", x.event(2, 8, 0), FULL);
        check.due("the first one's number", Check.told("sj", "0a8j", 0, 1, 0).spare(0), 0);
    }

    private static void kinds() {
        check.sentence("a kind, a YEAR, a HOUSE (0 to 5): 0 hard TIMES, 1 a CARPENTER, 2 a BURGLAR");
        int[] state = {2, 1, 3}, height = {10, 9, 10};
        for (int kind = 0; kind < 3; kind++) {
            for (int house : new int[] {0, 5}) {
                BrideDoors x = Check.told("st;st;st;st;st;st", house + "a8j", kind, 1, house);
                door("kind " + kind + " in house " + house, x, 1, 0, state[kind], height[kind], 10 - height[kind]);
            }
        }
        for (int wrong : new int[] {-1, 3, FAR[0], FAR[1]}) {
            check.due("kind " + wrong, new BrideDoors().event(wrong, 0, 0), BAD);
        }
        for (int wrong : new int[] {-1, 6, FAR[0], FAR[1]}) {
            check.due("house " + wrong, new BrideDoors().event(0, 0, wrong), BAD);
        }
    }

    private static void nothingIsThere() {
        check.sentence("(nothing, where it is not there, or no door hangs in it)");
        for (int kind = 0; kind < 3; kind++) {
            BrideDoors x = Check.told("sj;tj", "0a8j;3a8j", kind, 5, 1, kind, 5, 2, kind, 5, 3, kind, 5, 5);
            door("elsewhere", x, 23, 0, 1, 10, 0);
            door("she has not come", x, 23, 1, 0, 0, 0);
            check.due("the house without a door", x.at(23, 1, 0), 10);
            check.due("nothing is on the moor", x.left(1), 0);
            check.due("nothing is burnt", x.count(6), 0);
            BrideDoors early = Check.told("sj", "0f8j", kind, 4, 0, kind, 5, 0);
            door("ahead of her", early, 23, 0, 1, 10, 0);
            BrideDoors twice = Check.told("sj", "0a8a", kind, 1, 0, kind, 1, 0, kind, 2, 0);
            door("more often than there are doors", twice, 23, 0, kind == 0 ? 2 : kind == 1 ? 1 : 3, 1, 0);
            BrideDoors none = Check.told("", "", kind, 0, 0);
            check.due("no houses", none.draught(23), 0);
        }
        BrideDoors burnt = Check.told("sj", "0a8j", 0, 1, 0, 1, 2, 0, 2, 3, 0);
        door("a burnt door is neither sawn nor stolen", burnt, 23, 0, 2, 10, 0);
        BrideDoors moor = Check.told("sj", "0a8j", 2, 1, 0, 1, 2, 0, 0, 3, 0);
        door("a door on the moor is neither sawn nor burnt", moor, 23, 0, 3, 10, 0);
    }

    private static void eventsFirst() {
        check.sentence("In a YEAR first its EVENTS are done, as told");
        for (int kind = 0; kind < 3; kind++) {
            door("in her year", Check.told("sj", "0c8j", kind, 2, 0), 23, 0, 1, 10, 0);
            int[] state = {2, 1, 3};
            check.due("in the next one", Check.told("sj", "0c8j", kind, 3, 0).door(3, 0, 0), state[kind]);
            check.due("of the first year", Check.told("sj", "0a8j", kind, 0, 0).door(23, 0, 0), 1);
            check.due("of the last year", Check.told("sj", "0x8j", kind, 23, 0).door(23, 0, 0), 1);
        }
        check.due("the mother's door is sawn ahead of the daughter", Check.told("sj", "0a8j;0c0a", 1, 2, 0).door(2, 1, 1), 7);
        check.due("and burnt", Check.told("sj", "0a8j;0c0a", 0, 2, 0).door(2, 1, 0), 4);
    }

    private static void eventsAsTold() {
        check.sentence("its EVENTS are done, as told");
        // 3 and 2 high: which is the lowest hangs on whether hard times came first
        BrideDoors timesFirst = Check.told("sj", "0a8c;0a8b", 0, 1, 0, 2, 1, 0);
        door("hard times, burglar", timesFirst, 1, 0, 2, 3, 0);
        door("hard times, burglar", timesFirst, 1, 1, 3, 2, 0);
        BrideDoors alone = Check.told("sj", "0a8c", 2, 1, 0, 0, 1, 0);
        door("burglar, hard times", alone, 1, 0, 3, 3, 0);
        BrideDoors otherwise = Check.told("sj", "0a8c", 0, 1, 0, 2, 1, 0);
        door("hard times, burglar", otherwise, 1, 0, 2, 3, 0);
        door("carpenter, hard times", Check.told("sj", "0a8c", 1, 1, 0, 0, 1, 0), 1, 0, 2, 2, 1);
        door("hard times, carpenter", Check.told("sj", "0a8c", 0, 1, 0, 1, 1, 0), 1, 0, 2, 3, 0);
        door("a later year is told first", Check.told("sj", "0a8c", 0, 3, 0, 1, 2, 0), 3, 0, 2, 2, 1);
        // the carpenter makes 2 and 1 alike, so that the least is stolen
        BrideDoors alike = Check.told("sj", "0a8b;0a8a", 1, 1, 0, 2, 1, 0);
        door("carpenter, burglar", alike, 1, 0, 3, 1, 1);
        BrideDoors unlike = Check.told("sj", "0a8b;0a8a", 2, 1, 0, 1, 1, 0);
        door("burglar, carpenter", unlike, 1, 1, 3, 1, 0);
    }

    private static void hardTimes() {
        check.sentence("by hard TIMES the highest door that hangs in that HOUSE, of like ones that of the least of BRIDES, is BURNT");
        BrideDoors x = Check.told("st;st", "0a8c;0a8e;1a8t;0a8e;0a8d", 0, 1, 0);
        int[] want = {1, 2, 1, 1, 1};
        for (int b = 0; b < want.length; b++) {
            check.due("what the door of " + b + " is", x.door(1, b, 0), want[b]);
        }
        BrideDoors like = Check.told("st", "0b8e;0a8e", 0, 2, 0);
        check.due("the least, though she came later", like.door(2, 0, 0), 2);
        check.due("the other hangs", like.door(2, 1, 0), 1);
        like.event(0, 3, 0);
        check.due("then the other", like.door(3, 1, 0), 2);
    }

    private static void carpenter() {
        check.sentence("by a CARPENTER all that hang in it are lower by 1, 1 at least");
        BrideDoors x = Check.told("st;st", "0a8a;0a8b;0a8c;1a8t;0a8t", 1, 1, 0, 1, 2, 0);
        int[][] behindOne = {{1, 0}, {1, 1}, {2, 1}, {20, 0}, {19, 1}};
        int[][] behindTwo = {{1, 0}, {1, 1}, {1, 2}, {20, 0}, {18, 2}};
        for (int b = 0; b < 5; b++) {
            door("one carpenter", x, 1, b, 1, behindOne[b][0], behindOne[b][1]);
            door("two carpenters", x, 2, b, 1, behindTwo[b][0], behindTwo[b][1]);
        }
        check.due("the house opens as before", x.at(2, 0, 0), 20);
    }

    private static void burglar() {
        check.sentence("by a BURGLAR the lowest one, of like ones that of the least, comes to the MOOR");
        BrideDoors x = Check.told("st;st", "0a8e;0a8c;1a8a;0a8c;0a8d", 2, 1, 0);
        int[] want = {1, 3, 1, 1, 1};
        for (int b = 0; b < want.length; b++) {
            check.due("what the door of " + b + " is", x.door(1, b, 0), want[b]);
        }
        BrideDoors like = Check.told("st", "0b8e;0a8e", 2, 2, 0);
        check.due("the least, though she came later", like.door(2, 0, 0), 3);
        check.due("the other hangs", like.door(2, 1, 0), 1);
    }

    private static void bridesByNumbers() {
        check.sentence("Then BRIDES whose YEAR it is, by numbers, come to their HOUSES");
        check.due("a mother with a lower number", Check.told("st", "0a8j;0a0a").door(0, 1, 0), 1);
        check.due("a mother with a higher number", Check.told("st", "0a1a;0a8j").door(0, 0, 0), 4);
        BrideDoors row = Check.told("st", "0a8t;0a0a;0a1a;0a2a;0a3a;0a4a;0a5a;0a6a");
        for (int b = 0; b < 8; b++) {
            check.due("eight in one year, the height of " + b, row.door(0, b, 1), 20 - 2 * b);
        }
        BrideDoors back = Check.told("st", "0a1a;0a2a;0a3a;0a4a;0a5a;0a6a;0a7a;0a8t");
        for (int b = 0; b < 7; b++) {
            check.due("the other way round, the door of " + b, back.door(0, b, 0), 4);
        }
        check.due("a lower number does not come in an earlier year", Check.told("st", "0b8j;0a0a").door(23, 1, 0), 4);
    }

    private static void housesThatAreThere() {
        check.sentence("come to their HOUSES, if these are there");
        String six = "st;st;st;st;st;st";
        for (int many = 0; many <= 6; many++) {
            BrideDoors x = Check.told(many == 0 ? "" : six.substring(0, 3 * many - 1), "0a8a;1a8a;2a8a;3a8a;4a8a;5a8a");
            for (int b = 0; b < 6; b++) {
                check.due("of " + many + " houses, the door of " + b, x.door(23, b, 0), b < many ? 1 : 0);
            }
        }
        BrideDoors daughter = Check.told("st", "1a8j;0b0a");
        check.due("a mother who has not come", daughter.door(23, 1, 0), 4);
        Check.typeAll(daughter, 0, ";st");
        check.due("with her house she has", daughter.door(23, 1, 1), 8);
    }

    private static void ownDoor() {
        check.sentence("One told with 8 brings her own door");
        check.due("1 high", Check.told("st", "0a8a").door(0, 0, 1), 1);
        check.due("20 high", Check.told("st", "0a8t").door(0, 0, 1), 20);
        BrideDoors eight = Check.told("st", "0a8a;0a8b;0a8c;0a8d;0a8e;0a8f;0a8g;0a8h");
        check.due("8 is nobody among eight", eight.door(0, 7, 1), 8);
    }

    private static void lessTwo() {
        check.sentence("if her MOTHER has come by then, and her door hangs, one as high as that is then, less 2, 1 at least");
        for (int high = 1; high <= 20; high++) {
            char letter = (char) ('a' + high - 1);
            int want = high <= 3 ? 1 : high - 2;
            door("of " + high, Check.told("st", "0a8" + letter + ";0b0t"), 1, 1, 1, want, 0);
        }
        BrideDoors then = Check.told("st;sc", "0a8j;0b0a;0c0a;1d0a", 1, 2, 0);
        check.due("ahead of the carpenter", then.door(23, 1, 1), 7);
        check.due("as high as it is then", then.door(2, 2, 1), 7);
        check.due("as high as it was then", then.door(1, 1, 1), 8);
        door("and sawn", then, 3, 3, 1, 3, 4);
        BrideDoors sawn = Check.told("sc;st", "0a8t;1b0a");
        check.due("of what hangs, not of what was brought", sawn.door(1, 1, 1), 1);
    }

    private static void motherHasCome() {
        check.sentence("else none (nor does one whose MOTHER is herself, or one that there is not)");
        check.due("she comes a year later", Check.told("st", "0c8j;0b0a").door(23, 1, 0), 4);
        check.due("her door is burnt", Check.told("st", "0a8j;0c0a", 0, 1, 0).door(23, 1, 0), 4);
        check.due("her door is on the moor", Check.told("st", "0a8j;0c0a", 2, 1, 0).door(23, 1, 0), 4);
        check.due("it is burnt later", Check.told("st", "0a8j;0c0a", 0, 3, 0).door(23, 1, 0), 1);
        check.due("she brought none", Check.told("st", "0a1j;0b0a").door(23, 1, 0), 4);
        BrideDoors none = Check.told("st", "0a0t");
        door("she brings none", none, 23, 0, 4, 0, 0);
        check.due("nothing hangs", none.at(23, 0, 1), 0);
        check.due("the gap", none.at(23, 0, 4), 20);
    }

    private static void motherHerself() {
        check.sentence("one whose MOTHER is herself, or one that there is not");
        for (int b = 0; b < 8; b++) {
            StringBuilder brides = new StringBuilder();
            for (int i = 0; i < 8; i++) {
                brides.append(i == 0 ? "" : ";").append("0a").append(i == b ? b : 8).append('t');
            }
            check.due(b + " herself", Check.told("st", brides.toString()).door(23, b, 0), 4);
        }
        for (int mother = 1; mother <= 7; mother++) {
            check.due(mother + " is not there", Check.told("st", "0b" + mother + "t").door(23, 0, 0), 4);
            check.due(mother + " is not there", Check.told("tt", "0a8t;0b" + (mother < 2 ? 2 : mother) + "t").door(23, 1, 0), 4);
        }
        // one that was there and was undone leaves nothing behind
        BrideDoors gone = Check.told("st", "0b1t;0a8j");
        check.due("there", gone.door(23, 0, 1), 8);
        for (int i = 0; i < 5; i++) gone.undo(1);
        check.due("gone", gone.door(23, 0, 0), 4);
    }

    private static void higherThanItOpens() {
        check.sentence("If it is higher than the HOUSE OPENS");
        for (String sort : new String[] {"s", "w", "t"}) {
            BrideDoors lower = Check.told(sort + "e", "0a8d");
            check.due(sort + ": lower by one", lower.at(0, 0, 0), 5);
            door(sort + ": lower by one", lower, 0, 0, 1, 4, 0);
            BrideDoors same = Check.told(sort + "e", "0a8e");
            check.due(sort + ": as high", same.at(0, 0, 0), 5);
            door(sort + ": as high", same, 0, 0, 1, 5, 0);
            BrideDoors higher = Check.told(sort + "e", "0a8f");
            check.due(sort + ": higher by one", higher.at(0, 0, 0), sort.equals("s") ? 5 : 6);
            door(sort + ": higher by one", higher, 0, 0, 1, sort.equals("s") ? 5 : 6, sort.equals("s") ? 1 : 0);
        }
    }

    private static void turf() {
        check.sentence("a HOUSE of turf OPENS as high from then on");
        BrideDoors x = Check.told("ta", "0c8t;0e8b;0b8c", 0, 3, 0);
        int[] opens = {1, 3, 20, 20, 20};
        for (int year = 0; year < opens.length; year++) {
            check.due("behind year " + year, x.at(year, 0, 0), opens[year]);
        }
        check.due("for good", x.at(23, 0, 0), 20);
        check.due("her door is burnt, the gap stays", x.at(3, 0, 4), 17);
        door("nothing is sawn", x, 2, 0, 1, 20, 0);
        check.due("as high as can be", Check.told("tt", "0a8t").at(23, 0, 0), 20);
    }

    private static void wood() {
        check.sentence("one of wood by as much more as it must, but no more than 2 above what is told");
        int[] opens = {5, 6, 7, 7, 7}, sawn = {0, 0, 0, 1, 2};
        for (int more = 0; more < 5; more++) {
            BrideDoors x = Check.told("we", "0b8" + (char) ('e' + more));
            check.due("ahead of her", x.at(0, 0, 0), 5);
            check.due(more + " higher", x.at(1, 0, 0), opens[more]);
            door(more + " higher", x, 1, 0, 1, opens[more], sawn[more]);
        }
        BrideDoors twice = Check.told("we", "0a8f;0b8i;0c8t");
        check.due("by 1", twice.at(0, 0, 0), 6);
        check.due("2 above what is told, not above what it was", twice.at(1, 0, 0), 7);
        check.due("and no more", twice.at(23, 0, 0), 7);
        door("9 is sawn to 7", twice, 1, 1, 1, 7, 2);
        BrideDoors high = Check.told("ws;wt;wr", "0a8t;1a8t;2a8t");
        check.due("19 opens to 20", high.at(0, 0, 0), 20);
        check.due("20 stays", high.at(0, 1, 0), 20);
        check.due("18 opens to 20", high.at(0, 2, 0), 20);
        BrideDoors low = Check.told("wa", "0a8t");
        check.due("1 opens to 3", low.at(0, 0, 0), 3);
        door("17 are sawn off", low, 0, 0, 1, 3, 17);
    }

    private static void sawnOff() {
        check.sentence("then what is higher is sawn off. It hangs in the HOUSE.");
        BrideDoors stone = Check.told("sa", "0a8t");
        door("19 of 20", stone, 0, 0, 1, 1, 19);
        check.due("it hangs", stone.at(0, 0, 1), 1);
        check.due("no gap", stone.at(0, 0, 4), 0);
        BrideDoors daughter = Check.told("st;sb", "0a8j;1b0a");
        door("a daughter's too", daughter, 1, 1, 1, 2, 6);
        BrideDoors wide = Check.told("te", "0a8j;0b8h");
        door("not below what turf has come to", wide, 1, 1, 1, 8, 0);
    }

    private static void gapWithoutDoor() {
        check.sentence("The GAP of a HOUSE is how high it OPENS, less the highest door that hangs in it (nothing less, where none does).");
        BrideDoors x = Check.told("st;sa;tc", "2a8j;2b8d;0c8a", 0, 5, 2, 0, 6, 2, 0, 7, 2);
        check.due("none hangs, the highest", x.at(1, 0, 4), 20);
        check.due("none hangs, the lowest", x.at(23, 1, 4), 1);
        check.due("the highest hangs", x.at(1, 2, 4), 0);
        check.due("it is burnt", x.at(5, 2, 4), 6);
        check.due("all are burnt", x.at(7, 2, 4), 10);
        check.due("the lowest door", x.at(2, 0, 4), 19);
        check.sentence("The DRAUGHT is all GAPS together.");
        check.due("of three", x.draught(0), 21);
        check.due("of three", x.draught(23), 30);
        check.due("of none", new BrideDoors().draught(23), 0);
        check.due("the most", Check.told("st;st;st;st;st;st", "").draught(0), 120);
        check.due("the least", Check.told("sa", "0a8a").draught(0), 0);
    }

    private static void event() {
        check.sentence("An EVENT more: how many. BAD; FULL.");
        BrideDoors x = new BrideDoors();
        check.due("the least of all", x.event(0, 0, 0), 1);
        check.due("the greatest of all", x.event(2, 23, 5), 2);
        int[][] bad = {{-1, 0, 0}, {3, 0, 0}, {0, -1, 0}, {0, 24, 0}, {0, 0, -1}, {0, 0, 6}, {256, 0, 0}, {0, 256, 0}, {0, 0, 256}};
        for (int[] e : bad) {
            check.due("event(" + e[0] + ", " + e[1] + ", " + e[2] + ")", x.event(e[0], e[1], e[2]), BAD);
        }
        check.due("refused ones are not told", x.count(4), 2);
        for (int i = 3; i <= 8; i++) {
            check.due("the same again", x.event(2, 23, 5), i);
        }
        for (int[] e : bad) {
            check.due("BAD is ahead of FULL", x.event(e[0], e[1], e[2]), BAD);
        }
        check.due("FULL", x.event(0, 0, 0), FULL);
        check.due("how many", x.count(4), 8);
    }

    private static void back() {
        check.sentence("The last EVENT is undone: how many are left. NOT: there is none.");
        BrideDoors x = new BrideDoors();
        check.due("of none", x.back(), NOT);
        for (int i = 0; i < 8; i++) x.event(0, i, 0);
        for (int left = 7; left >= 0; left--) {
            check.due("back()", x.back(), left);
            check.due("how many", x.count(4), left);
        }
        check.due("of none", x.back(), NOT);
        check.due("how many", x.count(4), 0);
        // the last told, not the last in the years
        BrideDoors last = Check.told("sj", "0a8j", 0, 20, 0, 1, 2, 0);
        last.back();
        door("the carpenter is undone", last, 23, 0, 2, 10, 0);
    }

    private static void read() {
        check.sentence("EVENTS more, from a SHEET: its items, three for each");
        BrideDoors x = Check.told("sj;sj", "0a8j;1a8j", 1, 1, 0);
        Check.fill(x, 0, 0, 2, 3, 1, 0, 5, 0);
        check.due("two", x.read(0), 2);
        check.due("behind the one that was told", x.count(4), 3);
        check.due("the burglar", x.door(2, 1, 0), 1);
        check.due("the burglar", x.door(3, 1, 0), 3);
        check.due("hard times", x.door(4, 0, 0), 1);
        check.due("hard times", x.door(5, 0, 0), 2);
        check.due("the last is the last", x.back(), 2);
        check.due("hard times are undone", x.door(5, 0, 0), 1);
    }

    private static void readRefused() {
        check.sentence("how many came. BAD; NULL.");
        BrideDoors x = Check.told("sj", "0a8j", 1, 1, 0);
        x.sheet(0, 0, 3);
        for (int s : new int[] {-1, 4, FAR[0], FAR[1]}) {
            check.due("read(" + s + ")", x.read(s), BAD);
        }
        check.due("BAD is no finding", x.count(8), 0);
        for (int s = 1; s <= 3; s++) {
            check.due("a lost sheet", x.read(s), -11);
            check.due("its finding", x.count(8), 1);
        }
        check.due("nothing came", x.count(4), 1);
        check.due("the first sheet", x.read(0), 1);
        x.sheet(3, 0, 3);
        check.due("the last sheet", x.read(3), 1);
        check.due("they came", x.count(4), 3);
        x.lose(3);
        check.due("it is lost", x.read(3), -11);
    }

    private static void readWhole() {
        check.sentence("as many as are whole");
        int[] came = {0, 0, 0, 1, 1, 1, 2, 2, 2, 3};
        for (int items = 0; items < came.length; items++) {
            BrideDoors x = new BrideDoors();
            x.sheet(3, 1, items);
            check.due(items + " items", x.read(3), came[items]);
            check.due("events", x.count(4), came[items]);
        }
    }

    private static void readMayBe() {
        check.sentence("as long as each may be and there is room: how many came");
        int[][] least = {{0, 0, 0}, {2, 23, 5}};
        for (int[] e : least) {
            BrideDoors x = new BrideDoors();
            Check.fill(x, 0, 2, e);
            check.due("one that just may be", x.read(0), 1);
        }
        int[][] bad = {{-1, 0, 0}, {3, 0, 0}, {0, -1, 0}, {0, 24, 0}, {0, 0, -1}, {0, 0, 6}, {FAR[0], 0, 0}, {0, FAR[1], 0}};
        for (int[] e : bad) {
            for (int ahead = 0; ahead <= 2; ahead++) {
                BrideDoors x = new BrideDoors();
                x.sheet(0, 2, 12);
                for (int i = 0; i < 3; i++) x.lay(0, 2, 3 * ahead + i, e[i]);
                check.due("it ends at the first that may not be", x.read(0), ahead);
                check.due("events", x.count(4), ahead);
                check.due("no finding", x.count(8), 0);
            }
        }
        BrideDoors bytes = new BrideDoors();
        Check.fill(bytes, 0, 0, 256, 256 + 23, 256 + 5);
        check.due("a byte has its lowest bits alone", bytes.read(0), 1);
    }

    private static void readRoom() {
        check.sentence("and there is room");
        for (int told = 0; told <= 8; told++) {
            BrideDoors x = new BrideDoors();
            for (int i = 0; i < told; i++) x.event(1, 1, 1);
            x.sheet(0, 0, 60);
            check.due("of 20, behind " + told, x.read(0), 8 - told);
            check.due("events", x.count(4), 8);
            check.due("again", x.read(0), 0);
            check.due("the sheet is as it was", x.lose(0), 60);
        }
    }
}
