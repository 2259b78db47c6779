import java.math.BigInteger;

/** Each sentence of the passage '======== 4' that names an edge, fractions and lots, and promises 22 to 28. */
public final class SeenEdgesTest {
    private static final int BAD = -2, FULL = -4;
    private static final long BAD_LONG = Long.MIN_VALUE + 2;
    private static final int ALL_HEIGHTS = 2097150;
    private static final int[] FAR = {Integer.MIN_VALUE, Integer.MAX_VALUE};
    private static final int[] NO_EVENTS = {};
    private static final Check check = new Check();

    public static void main(String[] args) {
        eightSeen();
        houseThatThereIsNot();
        gapsSeen();
        never();
        neverAlone();
        opened();
        openedByRetelling();
        sort();
        ask();
        askOfLikeOnes();
        fractions();
        chanceOfEach();
        chanceOfWhatIsToldNow();
        lots();
        lotsOfEach();
        ages();
        agesEnd();
        seenCall();
        forget();
        neverCall();
        was();
        askCall();
        chance();
        agesCall();
        check.finish();
    }

    private static BrideDoors seen(BrideDoors x, int... sights) {
        for (int i = 0; i + 2 < sights.length; i += 3) {
            x.seen(sights[i], sights[i + 1], sights[i + 2]);
        }
        return x;
    }

    private static void eightSeen() {
        check.sentence("SEEN, 8 at most");
        BrideDoors x = Check.told("sj", "", 1, 1, 1);
        for (int i = 1; i <= 7; i++) check.due("seen " + i, x.seen(0, 0, 10), i);
        check.due("all come out so", x.never(), 1);
        check.due("the eighth", x.seen(0, 0, 9), 8);
        check.due("which does not", x.never(), 0);
        check.due("a ninth", x.seen(0, 0, 10), FULL);
        check.due("again", x.seen(0, 0, 10), FULL);
        check.due("how many", x.count(7), 8);
        x.forget();
        for (int i = 1; i <= 8; i++) check.due("seen " + i, x.seen(0, 0, 10), i);
        check.due("a ninth that would not come out so", x.seen(0, 0, 9), FULL);
        check.due("is not kept", x.never(), 1);
    }

    private static void houseThatThereIsNot() {
        check.sentence("(0 to 5; of one that there is not it never comes out so)");
        String six = "sa;sa;sa;sa;sa;sa";
        for (int many = 0; many <= 6; many++) {
            String houses = many == 0 ? "" : six.substring(0, 3 * many - 1);
            for (int house = 0; house <= 5; house++) {
                for (int gap : new int[] {0, 1, 20}) {
                    BrideDoors x = seen(Check.told(houses, "", 1, 1, 1), 23, house, gap);
                    boolean so = house < many && gap == 1;
                    String what = "house " + house + " of " + many + " at " + gap;
                    check.due("never, " + what, x.never(), so ? 1 : 0);
                    if (many > 0) {
                        int other = house == 0 ? many - 1 : 0;
                        boolean itself = other == house;
                        check.due("sort of " + other + ", " + what, x.was(other, 1), so ? 7 : 0);
                        check.due("opened of " + other + ", " + what, x.was(other, 0),
                            itself ? gap == 0 ? 0 : 1 << gap : so ? ALL_HEIGHTS : 0);
                    }
                }
            }
        }
        for (int house : new int[] {-1, 6, FAR[0], FAR[1]}) check.due("house " + house, new BrideDoors().seen(0, house, 0), BAD);
        BrideDoors fault = seen(Check.told("sj;", "", 1, 1, 1), 0, 0, 10);
        check.due("a text with a fault has no house", fault.never(), 0);
        fault.undo(0);
        check.due("the house is back", fault.never(), 1);
    }

    private static void gapsSeen() {
        check.sentence("was so much (0 to 20)");
        check.due("0", new BrideDoors().seen(0, 0, 0), 1);
        check.due("20", new BrideDoors().seen(0, 0, 20), 1);
        for (int gap : new int[] {-1, 21, FAR[0], FAR[1]}) check.due("gap " + gap, new BrideDoors().seen(0, 0, gap), BAD);
        check.due("0 comes out so", seen(Check.told("st", "0a8t", 1, 1, 1), 0, 0, 0).never(), 1);
        check.due("20 comes out so", seen(Check.told("st", "", 1, 1, 1), 0, 0, 20).never(), 1);
        check.due("19 does not", seen(Check.told("st", "", 1, 1, 1), 0, 0, 19).never(), 0);
        check.sentence("behind a YEAR the GAP of a HOUSE");
        for (int year = 0; year <= 23; year++) {
            int gap = year < 23 ? 10 : 0;
            check.due("behind " + year, seen(Check.told("sj", "0x8j", 1, 1, 1), year, 0, gap).never(), 1);
            check.due("behind " + year, seen(Check.told("sj", "0x8j", 1, 1, 1), year, 0, 10 - gap).never(), 0);
        }
    }

    private static void never() {
        check.sentence("EVENTS each of which, had it alone not been, makes all that was SEEN come out so, as bits");
        int[] eight = new int[24];
        for (int i = 0; i < 8; i++) {
            eight[3 * i] = 1;
            eight[3 * i + 1] = 1 + i;
        }
        BrideDoors x = Check.told("st", "0a8t", eight);
        check.due("nothing seen", x.never(), 255);
        for (int i = 0; i < 8; i++) {
            x.forget();
            x.seen(1 + i, 0, i);
            check.due("that or one ahead of it was not", x.never(), (2 << i) - 1);
            x.seen(i, 0, i);
            check.due("just that one was not", x.never(), 1 << i);
            x.seen(23, 0, 6);
            check.due("but then it ends otherwise", x.never(), 0);
        }
        check.due("no events", Check.told("st", "0a8t").never(), 0);
        check.due("no events, and what is not so was seen", seen(Check.told("st", "0a8t"), 0, 0, 9).never(), 0);
    }

    private static void neverAlone() {
        check.sentence("had it alone not been");
        int[][] events = {{0, 3, 0}, {1, 4, 1}, {2, 6, 2}, {0, 12, 1}, {1, 20, 0}, {2, 9, 0}, {1, 9, 2}, {0, 23, 2}};
        String houses = "sh;wg;tc", brides = "0a8j;1b8k;2c0a;0c2a;1c8e;2c8b;0d8f;1d2a";
        for (int out = -1; out < 8; out++) {
            BrideDoors without = Check.told(houses, brides);
            for (int e = 0; e < 8; e++) {
                if (e != out) without.event(events[e][0], events[e][1], events[e][2]);
            }
            int[] sights = {3, 0, without.at(3, 0, 4), 9, 2, without.at(9, 2, 4), 12, 1, without.at(12, 1, 4), 23, 2, without.at(23, 2, 4)};
            int want = 0;
            for (int e = 0; e < 8; e++) {
                BrideDoors other = Check.told(houses, brides);
                for (int i = 0; i < 8; i++) {
                    if (i != e) other.event(events[i][0], events[i][1], events[i][2]);
                }
                boolean so = true;
                for (int i = 0; i < sights.length; i += 3) so &= other.at(sights[i], sights[i + 1], 4) == sights[i + 2];
                want |= so ? 1 << e : 0;
            }
            BrideDoors x = Check.told(houses, brides);
            for (int[] e : events) x.event(e[0], e[1], e[2]);
            seen(x, sights);
            check.due("seen as without " + out, x.never(), want);
            check.holds("that one is among them", out < 0 || (want >> out & 1) == 1);
            check.due("they are told all the same", x.count(4), 8);
        }
    }

    private static void opened() {
        check.sentence("OPENED of a HOUSE: 1 to 20, how high at first, in place of its own, likewise, as bits (bit 1 on)");
        check.due("nothing seen: 1 to 20", Check.told("sj", "").was(0, 0), ALL_HEIGHTS);
        for (int gap = 0; gap <= 20; gap++) {
            check.due("without a door, " + gap, seen(Check.told("sj", ""), 23, 0, gap).was(0, 0), gap == 0 ? 0 : 1 << gap);
        }
        check.due("a door of 1, no gap: 1", seen(Check.told("sj", "0a8a"), 0, 0, 0).was(0, 0), 2);
        check.due("a door of 1, 19: 20", seen(Check.told("sj", "0a8a"), 0, 0, 19).was(0, 0), 1 << 20);
        check.due("a door of 1, 20: none", seen(Check.told("sj", "0a8a"), 0, 0, 20).was(0, 0), 0);
        check.due("a door of 20, no gap: all", seen(Check.told("sj", "0a8t"), 0, 0, 0).was(0, 0), ALL_HEIGHTS);
        check.due("turf and a door of 20", seen(Check.told("tj", "0a8t"), 0, 0, 0).was(0, 0), ALL_HEIGHTS);
        // wood opens to 2 above the height that is tried
        check.due("wood, the door is burnt, 7", seen(Check.told("we", "0a8t", 0, 1, 0), 1, 0, 7).was(0, 0), 1 << 5);
        check.due("wood, the door is burnt, 20", seen(Check.told("we", "0a8t", 0, 1, 0), 1, 0, 20).was(0, 0), 7 << 18);
        check.due("wood, the door is burnt, 2", seen(Check.told("we", "0a8t", 0, 1, 0), 1, 0, 2).was(0, 0), 0);
    }

    private static BrideDoors askedOf(String houses) {
        return Check.told(houses, "0a8j;1b8k;2c0a;0c2a;1c8e;2c8b;0d8f;1d2a", 0, 3, 0, 1, 4, 1, 2, 6, 2, 0, 12, 1, 1, 20, 0);
    }

    private static final int[][] SIGHTS = {{}, {3, 0, 1}, {12, 1, 4}, {23, 2, 0}, {0, 0, 0, 3, 0, 1}, {6, 2, 0, 12, 1, 2}, {1, 1, 0}, {5, 5, 0}};

    private static boolean comesOut(BrideDoors x, int[] sights) {
        boolean so = true;
        for (int i = 0; i + 2 < sights.length; i += 3) so &= x.at(sights[i], sights[i + 1], 4) == sights[i + 2];
        return so;
    }

    private static void openedByRetelling() {
        check.sentence("in place of its own, likewise, as bits");
        String houses = "sh;wg;tc";
        for (int[] sights : SIGHTS) {
            BrideDoors x = seen(askedOf(houses), sights);
            for (int h = 0; h < 3; h++) {
                int heights = 0, sorts = 0;
                for (int high = 1; high <= 20; high++) {
                    String other = houses.substring(0, 3 * h + 1) + (char) ('a' + high - 1) + houses.substring(3 * h + 2);
                    if (comesOut(askedOf(other), sights)) heights |= 1 << high;
                }
                for (int sort = 0; sort < 3; sort++) {
                    String other = houses.substring(0, 3 * h) + "swt".charAt(sort) + houses.substring(3 * h + 1);
                    if (comesOut(askedOf(other), sights)) sorts |= 1 << sort;
                }
                check.due("opened of " + h, x.was(h, 0), heights);
                check.due("sort of " + h, x.was(h, 1), sorts);
                check.due("how high is told all the same", x.house(h, 1), houses.charAt(3 * h + 1) - 'a' + 1);
                check.due("of what sort is told all the same", x.house(h, 0), h);
            }
        }
    }

    private static void sort() {
        check.sentence("SORT of a HOUSE: 0 s, 1 w, 2 t, in place of its own, likewise, as bits.");
        for (String told : new String[] {"se", "we", "te"}) {
            check.due("nothing seen", Check.told(told, "0a8t").was(0, 1), 7);
            check.due("stone alone", seen(Check.told(told, "0a8t", 0, 1, 0), 1, 0, 5).was(0, 1), 1);
            check.due("wood alone", seen(Check.told(told, "0a8t", 0, 1, 0), 1, 0, 7).was(0, 1), 2);
            check.due("turf alone", seen(Check.told(told, "0a8t", 0, 1, 0), 1, 0, 20).was(0, 1), 4);
            check.due("wood or turf", seen(Check.told(told, "0a8g", 0, 1, 0), 1, 0, 7).was(0, 1), 6);
            check.due("none of them", seen(Check.told(told, "0a8t", 0, 1, 0), 1, 0, 6).was(0, 1), 0);
            check.due("all, ahead of her", seen(Check.told(told, "0b8t"), 0, 0, 5).was(0, 1), 7);
        }
    }

    private static void ask() {
        check.sentence("the YEAR behind which the greatest number of those of OPENED by which its GAP is as much is least, of like ones the least");
        check.due("in the first all differ", Check.told("sj", "0b8j").ask(0), 0);
        check.due("a door of 20: all alike till it is burnt", Check.told("sj", "0a8t", 0, 9, 0).ask(0), 9);
        check.due("in the last", Check.told("sj", "0a8t", 0, 23, 0).ask(0), 23);
        check.due("always alike", Check.told("sj", "0a8t").ask(0), 0);
        // a door of 10 leaves heights 1 to 10 alike, one of 5 but 1 to 5
        BrideDoors steps = Check.told("sj", "0a8j;0a8e", 0, 7, 0);
        check.due("10 alike, then 5 alike", steps.ask(0), 7);
        steps.event(0, 8, 0);
        check.due("then none", steps.ask(0), 8);
        // what was seen leaves 1 to 5 alone, of which a door of 5 makes all alike, too
        check.due("of those that are left", seen(Check.told("sj", "0a8j;0a8e;0a8c", 0, 7, 0, 0, 8, 0), 7, 0, 0).ask(0), 8);
        // a carpenter makes the gap 1 of all but 1 itself, whose door cannot be lower
        check.due("1 is among them", Check.told("sj", "0a8t", 1, 1, 0).ask(0), 1);
        // doors of 20 and 19: which one is burnt makes a difference of 20 alone
        check.due("20 is among them", Check.told("sj", "0a8t;0a8s", 0, 1, 0).ask(0), 1);
        check.due("1 is ruled out, and the rest alike", seen(Check.told("sj", "0a8t", 1, 1, 0), 1, 0, 1).ask(0), 0);
        check.due("one is left", seen(Check.told("sj", "0b8t", 0, 9, 0), 0, 0, 7).ask(0), 0);
    }

    private static void askOfLikeOnes() {
        check.sentence("is least, of like ones the least");
        check.due("two that are alike", Check.told("sj", "0a8t;0k8t", 0, 7, 0).ask(0), 7);
        check.due("again in a later year", Check.told("sj", "0a8t;0j8t", 0, 7, 0, 0, 20, 0).ask(0), 7);
        check.due("none of opened: all are alike", seen(Check.told("sj", "0a8t", 0, 7, 0), 0, 0, 9).ask(0), 0);
        check.due("turf all alike till the end", Check.told("tj", "0a8t", 0, 7, 0).ask(0), 0);
    }

    private static void chanceIs(String what, BrideDoors x, int c, int house, long above, long below) {
        check.due(what + ", above", x.chance(c, house, 0), above);
        check.due(what + ", below", x.chance(c, house, 1), below);
    }

    private static void fractions() {
        check.sentence("FRACTIONS are told in lowest terms, above and below (0 by 1).");
        chanceIs("0 by 1, without events", Check.told("sj", "0a8j"), 5, 0, 0, 1);
        chanceIs("0 by 1, with events", Check.told("sj", "0a8j", 1, 1, 0, 1, 2, 0), 5, 0, 0, 1);
        chanceIs("1 by 1, without events", Check.told("sj", ""), 5, 0, 1, 1);
        chanceIs("1 by 1, with events", Check.told("sj", "", 0, 1, 0, 0, 2, 0), 5, 0, 1, 1);
        long[][] want = {{0, 1}, {1, 16}, {1, 8}, {3, 16}, {1, 4}, {5, 16}, {3, 8}, {7, 16}, {1, 2}, {9, 16}, {5, 8}, {11, 16},
            {3, 4}, {13, 16}, {7, 8}, {15, 16}, {1, 1}};
        for (int c = 0; c <= 16; c++) {
            chanceIs(c + " sixteenths", Check.told("sj", "0a8j", 0, 1, 0), c, 0, want[c][0], want[c][1]);
        }
    }

    private static void chanceOfEach() {
        check.sentence("each of EVENTS is by c sixteenths (0 to 16), by itself: the chance that a HOUSE is OPEN: a FRACTION");
        int[][] events = {{0, 3, 0}, {2, 4, 1}, {2, 6, 0}, {0, 12, 1}, {1, 2, 0}, {0, 9, 0}, {2, 9, 2}, {0, 23, 2}};
        String houses = "sh;wg;tc", brides = "0a8j;1b8k;2c0a;0c2a;1c1e;2m8b;0h8f;1n6a";
        BrideDoors x = Check.told(houses, brides);
        for (int[] e : events) x.event(e[0], e[1], e[2]);
        int[] open = new int[256];
        for (int bits = 0; bits < 256; bits++) {
            BrideDoors some = Check.told(houses, brides);
            for (int e = 0; e < 8; e++) {
                if ((bits >> e & 1) == 1) some.event(events[e][0], events[e][1], events[e][2]);
            }
            open[bits] = some.left(0);
        }
        for (int c = 0; c <= 16; c++) {
            for (int h = 0; h < 3; h++) {
                BigInteger above = BigInteger.ZERO, below = BigInteger.valueOf(16).pow(8);
                for (int bits = 0; bits < 256; bits++) {
                    int are = Integer.bitCount(bits);
                    BigInteger weight = BigInteger.valueOf(c).pow(are).multiply(BigInteger.valueOf(16 - c).pow(8 - are));
                    if ((open[bits] >> h & 1) == 1) above = above.add(weight);
                }
                BigInteger common = above.gcd(below);
                chanceIs("c " + c + " of " + h, x, c, h, above.divide(common).longValueExact(), below.divide(common).longValueExact());
            }
        }
        BrideDoors all = Check.told("sj", "0a8a;0a8a;0a8a;0a8a;0a8a;0a8a;0a8a;0a8a", 0, 1, 0, 0, 1, 0, 0, 1, 0, 0, 1, 0,
            0, 1, 0, 0, 1, 0, 0, 1, 0, 0, 1, 0);
        chanceIs("all of eight: the least there is", all, 1, 0, 1, 4294967296L);
        chanceIs("all of eight", all, 15, 0, 2562890625L, 4294967296L);
        chanceIs("none of eight", all, 0, 0, 0, 1);
        chanceIs("surely all of eight", all, 16, 0, 1, 1);
    }

    private static void chanceOfWhatIsToldNow() {
        check.sentence("the chance that a HOUSE is OPEN: a FRACTION");
        BrideDoors x = Check.told("sj", "0a8j", 0, 1, 0);
        chanceIs("hard times", x, 4, 0, 1, 4);
        x.event(2, 2, 0);
        chanceIs("and a burglar", x, 4, 0, 7, 16);
        x.back();
        chanceIs("who is undone", x, 4, 0, 1, 4);
        Check.fill(x, 0, 0, 2, 2, 0);
        x.read(0);
        chanceIs("and read again", x, 4, 0, 7, 16);
        x.undo(1);
        chanceIs("a bride who is undone", x, 4, 0, 1, 1);
        x.type(1, 'j');
        chanceIs("and typed again", x, 4, 0, 7, 16);
        x.wipe(1);
        chanceIs("and wiped", x, 4, 0, 1, 1);
        Check.typeAll(x, 1, "0c8j");
        chanceIs("and comes behind both", x, 4, 0, 0, 1);
        x.undo(0);
        check.due("no house", x.chance(4, 0, 0), BAD_LONG);
        x.type(0, 'a');
        Check.typeAll(x, 0, ";sa");
        chanceIs("another house", x, 4, 1, 1, 1);
        chanceIs("the first house", x, 4, 0, 0, 1);
    }

    /** The lots of a seed, in numbers that do not wrap. */
    private static int[] lotsOf(int seed, int many) {
        BigInteger word = BigInteger.ONE.shiftLeft(32), now = BigInteger.valueOf(seed).mod(word);
        int[] found = new int[many], of = {3, 24, 6};
        for (int i = 0; i < many; i++) {
            now = now.multiply(BigInteger.valueOf(1103515245)).add(BigInteger.valueOf(12345)).mod(word);
            found[i] = now.shiftRight(16).intValueExact() % of[i % 3];
        }
        return found;
    }

    private static void lots() {
        check.sentence("SEED becomes 1103515245 SEED and 12345, as ints that wrap; its upper 16 bits as a number from 0 on, modulo m");
        String houses = "sh;wg;tc;st;wa;tt", brides = "0a8j;1b8k;2c0a;3c2a;4c8e;5c8b;3d8f;5d2a";
        int[] seeds = {0, 1, -1, 7, 2, -2, 12345, -12345, 1103515245, 65535, 65536, FAR[0], FAR[1], 1 << 30, -(1 << 30)};
        for (int seed : seeds) {
            for (int n = 0; n <= 8; n++) {
                BrideDoors drawn = Check.told(houses, brides, lotsOf(seed, 3 * n));
                BrideDoors x = Check.told(houses, brides, 0, 23, 3);
                check.due("ages(" + seed + ", " + n + ", 0)", x.ages(seed, n, 0), drawn.draught(23));
                check.due("ages(" + seed + ", " + n + ", 1)", x.ages(seed, n, 1), Integer.bitCount(drawn.left(1)));
            }
        }
        // of 1103515245 and of what it comes to the highest bit is set now and then
        int wraps = 0;
        for (int seed = 0; seed < 100; seed++) {
            BrideDoors drawn = Check.told(houses, brides, lotsOf(seed, 24));
            check.due("ages(" + seed + ", 8, 0)", Check.told(houses, brides).ages(seed, 8, 0), drawn.draught(23));
            if (1103515245 * seed + 12345 < 0) wraps++;
        }
        check.holds("some of these wrap", wraps > 30 && wraps < 70);
    }

    private static void lotsOfEach() {
        check.sentence("of each a LOT of 3 (its kind), a LOT of 24 (its YEAR), a LOT of 6 (its HOUSE)");
        String houses = "sk;sl;sm;sn;so;sp", brides = "0a8k;1a8l;2a8m;3a8n;4a8o;5a8p";
        int kinds = 0, years = 0, rooms = 0;
        for (int seed = -300; seed < 300; seed++) {
            int[] first = lotsOf(seed, 3);
            kinds |= 1 << first[0];
            years |= 1 << first[1];
            rooms |= 1 << first[2];
            // a door in year 0 comes behind that year's events
            int[] draughts = {11 + first[2], 1, 11 + first[2]};
            String what = "ages(" + seed + ", 1, ";
            check.due(what + "0)", Check.told(houses, brides).ages(seed, 1, 0), first[1] == 0 ? 0 : draughts[first[0]]);
            check.due(what + "1)", Check.told(houses, brides).ages(seed, 1, 1), first[1] > 0 && first[0] == 2 ? 1 : 0);
        }
        check.due("all kinds were drawn", kinds, 7);
        check.due("all years were drawn", years, (1 << 24) - 1);
        check.due("all houses were drawn", rooms, 63);
    }

    private static void ages() {
        check.sentence("n EVENTS (0 to 8), in place of those told");
        // seed 46 draws a burglar in year 11 at house 0
        BrideDoors x = Check.told("sj", "0a8j", 0, 23, 0);
        check.due("none: what is told does not count", x.ages(46, 0, 0), 0);
        check.due("none is on the moor", x.ages(46, 0, 1), 0);
        check.due("one", x.ages(46, 1, 0), 10);
        check.due("one is on the moor", x.ages(46, 1, 1), 1);
        check.due("what is told is there still", x.count(4), 1);
        check.due("and done", x.draught(23), 10);
        // of seed 77 the eighth, a burglar in year 14, is the first at house 0
        check.due("seven", x.ages(77, 7, 1), 0);
        check.due("eight", x.ages(77, 8, 1), 1);
        for (int i = 1; i < 8; i++) x.event(0, 23, 0);
        check.due("eight are told, eight are drawn", x.ages(77, 8, 1), 1);
        check.due("eight are told still", x.count(4), 8);
    }

    private static void seenCall() {
        check.sentence("SEEN more: how many. BAD; FULL.");
        BrideDoors x = new BrideDoors();
        check.due("the least of all", x.seen(0, 0, 0), 1);
        check.due("the greatest of all", x.seen(23, 5, 20), 2);
        int[][] bad = {{-1, 0, 0}, {24, 0, 0}, {0, -1, 0}, {0, 6, 0}, {0, 0, -1}, {0, 0, 21}, {256, 0, 0}, {0, 256, 0}, {0, 0, 256}};
        for (int[] s : bad) check.due("seen(" + s[0] + ", " + s[1] + ", " + s[2] + ")", x.seen(s[0], s[1], s[2]), BAD);
        check.due("refused ones are not kept", x.count(7), 2);
        for (int i = 3; i <= 8; i++) check.due("the same again", x.seen(0, 0, 0), i);
        for (int[] s : bad) check.due("BAD is ahead of FULL", x.seen(s[0], s[1], s[2]), BAD);
        check.due("FULL", x.seen(0, 0, 0), FULL);
    }

    private static void forget() {
        check.sentence("All SEEN are forgotten: how many.");
        BrideDoors x = Check.told("sj", "", 1, 1, 1);
        check.due("of none", x.forget(), 0);
        for (int many = 1; many <= 8; many++) {
            for (int i = 0; i < many; i++) x.seen(0, 0, 9);
            check.due("it cannot be", x.never(), 0);
            check.due("of " + many, x.forget(), many);
            check.due("how many", x.count(7), 0);
            check.due("nothing is seen", x.never(), 1);
            check.due("again", x.forget(), 0);
        }
    }

    private static void neverCall() {
        check.sentence("`int never()`: NEVER, as bits.");
        check.due("of a new object", new BrideDoors().never(), 0);
        BrideDoors x = new BrideDoors();
        for (int i = 0; i < 8; i++) {
            x.event(0, 0, 0);
            check.due("of " + (i + 1), x.never(), (2 << i) - 1);
        }
    }

    private static void was() {
        check.sentence("OPENED (what = 0), SORT (1), as bits. BAD.");
        BrideDoors x = seen(Check.told("sj;wk", "0a8t;1a8t", 0, 1, 0, 0, 1, 1), 1, 1, 13);
        check.due("the first house, opened", x.was(0, 0), ALL_HEIGHTS);
        check.due("the last house, opened", x.was(1, 0), 1 << 11);
        check.due("the last house, sort", x.was(1, 1), 2);
        for (int h : new int[] {-1, 2, 5, 6, FAR[0], FAR[1]}) {
            check.due("was(" + h + ", 0)", x.was(h, 0), BAD);
            check.due("was(" + h + ", 1)", x.was(h, 1), BAD);
        }
        for (int what : new int[] {-1, 2, FAR[0], FAR[1]}) check.due("was(0, " + what + ")", x.was(0, what), BAD);
        check.due("no houses", new BrideDoors().was(0, 0), BAD);
    }

    private static void askCall() {
        check.sentence("`int ask(int house)`: ASK. BAD.");
        BrideDoors x = Check.told("sj;sj", "0a8t;1a8t", 0, 5, 0, 0, 8, 1);
        check.due("the first house", x.ask(0), 5);
        check.due("the last house", x.ask(1), 8);
        for (int h : new int[] {-1, 2, 5, 6, FAR[0], FAR[1]}) check.due("ask(" + h + ")", x.ask(h), BAD);
        check.due("no houses", new BrideDoors().ask(0), BAD);
        check.due("how high is told all the same", x.house(0, 1), 10);
    }

    private static void chance() {
        check.sentence("CHANCE: above, below. BAD (the least long and 2 more).");
        check.due("the least long and 2 more", BAD_LONG, -9223372036854775806L);
        BrideDoors x = Check.told("sj;sj", "0a8j", 0, 1, 0);
        chanceIs("no sixteenth", x, 0, 0, 0, 1);
        chanceIs("sixteen", x, 16, 0, 1, 1);
        chanceIs("the last house", x, 3, 1, 1, 1);
        for (int c : new int[] {-1, 17, FAR[0], FAR[1]}) check.due("c " + c, x.chance(c, 0, 0), BAD_LONG);
        for (int h : new int[] {-1, 2, 5, 6, FAR[0], FAR[1]}) check.due("house " + h, x.chance(5, h, 0), BAD_LONG);
        for (int what : new int[] {-1, 2, FAR[0], FAR[1]}) check.due("what " + what, x.chance(5, 0, what), BAD_LONG);
        check.due("no houses", new BrideDoors().chance(5, 0, 0), BAD_LONG);
    }

    private static void agesEnd() {
        check.sentence("the DRAUGHT behind YEAR 23; how many doors are on the MOOR.");
        // seed 598 draws burglars in years 8 and 9, both at house 0
        check.due("two doors, one burglar", Check.told("sj", "0a8j;0a8c").ages(598, 1, 1), 1);
        check.due("two doors, two burglars", Check.told("sj", "0a8j;0a8c").ages(598, 2, 1), 2);
        check.due("one door, two burglars", Check.told("sj", "0a8j").ages(598, 2, 1), 1);
        check.due("no door", Check.told("sj", "").ages(598, 2, 1), 0);
        check.due("the end, with no door", Check.told("sj", "0a8j;0a8c").ages(598, 2, 0), 10);
        check.due("the end, with a door in the last year", Check.told("sj", "0a8j;0x8c").ages(598, 2, 0), 7);
        check.due("the most", Check.told("st;st;st;st;st;st", "").ages(598, 8, 0), 120);
        check.due("the least", Check.told("", "0a8j").ages(598, 8, 0), 0);
    }

    private static void agesCall() {
        check.sentence("AGES: DRAUGHT (what = 0), how many doors (1). BAD.");
        BrideDoors x = Check.told("sj", "0a8j", NO_EVENTS);
        check.due("any seed will do", x.ages(FAR[0], 0, 0), 0);
        check.due("any seed will do", x.ages(FAR[1], 0, 1), 0);
        for (int n : new int[] {-1, 9, FAR[0], FAR[1]}) check.due("n " + n, x.ages(7, n, 0), BAD);
        for (int what : new int[] {-1, 2, FAR[0], FAR[1]}) check.due("what " + what, x.ages(7, 0, what), BAD);
        check.due("no houses", new BrideDoors().ages(7, 8, 0), 0);
    }
}
