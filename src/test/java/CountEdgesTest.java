import java.math.BigInteger;
import java.util.ArrayList;
import java.util.Arrays;
import java.util.List;

/** Each sentence of promises 35 and 36 that names an edge. */
public final class CountEdgesTest {
    private static final int NONE = -1, BAD = -2;
    private static final String SIX = "sh;wg;tc;st;wa;tt";
    private static final String EIGHT = "0a8j;1b8k;2c0a;3c2a;4c8e;5c8b;3d8f;5d2a";
    private static final int[] EVENTS = {0, 3, 0, 1, 4, 1, 2, 6, 2, 0, 12, 1, 1, 20, 0, 2, 9, 3, 0, 23, 5, 1, 0, 0};
    private static final Check check = new Check();

    public static void main(String[] args) {
        counts();
        draughtBehindTheLast();
        burnt();
        seen();
        latestFinding();
        digestWraps();
        digestOfEachThing();
        digestYearsOfHouses();
        digestYearsOfBrides();
        digestSeen();
        digestPlans();
        digestOfAll();
        digestAges();
        digestLeavesAll();
        check.finish();
    }

    private static void counts() {
        check.sentence("0 HOUSES, 1 BRIDES, 2, 3 bytes of texts, 4 EVENTS");
        int[] nothing = new int[9];
        int[] all = {6, 8, 17, 39, 8, 0, 0, 8, 0};
        BrideDoors x = Check.told(SIX, EIGHT, EVENTS);
        for (int i = 0; i < 8; i++) x.seen(0, 0, 0);
        all[5] = x.draught(23);
        all[6] = 3;
        for (int what = 0; what <= 8; what++) {
            check.due("of nothing, count(" + what + ")", new BrideDoors().count(what), nothing[what]);
            check.due("of all there can be, count(" + what + ")", x.count(what), all[what]);
        }
        for (int what : new int[] {-1, 9, Integer.MIN_VALUE, Integer.MAX_VALUE}) {
            check.due("count(" + what + ")", x.count(what), BAD);
            check.due("count(" + what + ") of a new object", new BrideDoors().count(what), BAD);
        }
        BrideDoors fault = Check.told("sj;", "0a8j;0");
        check.due("a fault: no houses", fault.count(0), 0);
        check.due("a fault: no brides", fault.count(1), 0);
        check.due("a fault: bytes", fault.count(2), 3);
        check.due("a fault: bytes", fault.count(3), 6);
    }

    private static void draughtBehindTheLast() {
        check.sentence("5 the DRAUGHT behind YEAR 23");
        check.due("no houses", new BrideDoors().count(5), 0);
        check.due("the most", Check.told("st;st;st;st;st;st", "").count(5), 120);
        check.due("in the last year", Check.told("sj", "0x8i").count(5), 1);
        check.due("in the last year", Check.told("sj", "0a8j", 0, 23, 0).count(5), 10);
    }

    private static void burnt() {
        check.sentence("6 how many doors are BURNT by it");
        BrideDoors x = Check.told("st", "0a8a;0a8b;0a8c;0a8d;0a8e;0a8f;0a8g;0a8h");
        for (int i = 1; i <= 8; i++) {
            x.event(0, 23, 0);
            check.due("by " + i, x.count(6), i);
        }
        check.due("more often than there are doors", Check.told("st", "0a8a", 0, 1, 0, 0, 2, 0).count(6), 1);
        check.due("stolen ones are not", Check.told("st", "0a8a", 2, 1, 0).count(6), 0);
        check.due("none hangs yet", Check.told("st", "0x8a", 0, 23, 0).count(6), 0);
    }

    private static void seen() {
        check.sentence("7 SEEN");
        BrideDoors x = new BrideDoors();
        check.due("none", x.count(7), 0);
        for (int i = 1; i <= 8; i++) {
            x.seen(0, 5, 20);
            check.due("of " + i, x.count(7), i);
        }
        x.seen(0, 5, 20);
        check.due("a ninth is not kept", x.count(7), 8);
        x.forget();
        check.due("forgotten", x.count(7), 0);
    }

    private static void latestFinding() {
        check.sentence("8 the number of the latest FINDING (0 before any). BAD.");
        BrideDoors x = Check.told("sj", "0a8j");
        check.due("before any", x.count(8), 0);
        x.type(2, 0);
        x.back();
        x.count(9);
        x.get(4, 0, 0);
        check.due("other refusals are none", x.count(8), 0);
        x.sheet(0, 0, -1);
        check.due("5", x.count(8), 5);
        x.lose(0);
        check.due("1", x.count(8), 1);
        x.sheet(0, 0, 1);
        x.get(0, 1, 0);
        check.due("3", x.count(8), 3);
        x.get(0, 0, 1);
        check.due("2", x.count(8), 2);
        x.sheet(1, 1, 1);
        x.copy(0, 0, 1, 0, 1);
        check.due("4", x.count(8), 4);
        x.get(0, 0, 0);
        x.back();
        x.wipe(0);
        check.due("it stays", x.count(8), 4);
        check.due("another object has its own", new BrideDoors().count(8), 0);
    }

    /** All that the digest is made of, asked of an object call by call. */
    private static List<Long> parts(BrideDoors x) {
        List<Long> all = new ArrayList<>();
        for (int what = 0; what <= 7; what++) all.add((long) x.count(what));
        for (int text = 0; text < 2; text++) all.add((long) x.fault(text));
        for (int h = 0; h < x.count(0); h++) {
            for (int what = 0; what < 2; what++) all.add((long) x.house(h, what));
            for (int year : new int[] {0, 7, 15, 23}) for (int what = 0; what < 5; what++) all.add((long) x.at(year, h, what));
            for (int what = 0; what < 2; what++) all.add((long) x.was(h, what));
            all.add((long) x.ask(h));
            for (int what = 0; what < 2; what++) all.add(x.chance(5, h, what));
        }
        for (int b = 0; b < x.count(1); b++) {
            for (int what = 0; what < 4; what++) all.add((long) x.bride(b, what));
            for (int year : new int[] {7, 15, 23}) for (int what = 0; what < 3; what++) all.add((long) x.door(year, b, what));
            all.add((long) x.kin(b));
            for (int what = 0; what < 2; what++) all.add((long) x.wed(b, what));
            for (int what = 0; what < 2; what++) all.add((long) x.when(b, what));
            for (int what = 0; what < 2; what++) all.add((long) x.from(b, what));
        }
        for (int year = 0; year <= 23; year++) all.add((long) x.draught(year));
        for (int what = 0; what < 2; what++) all.add((long) x.dog(what));
        all.add((long) x.lowest());
        for (int what = 0; what < 2; what++) all.add((long) x.left(what));
        all.add((long) x.spare(NONE));
        all.add((long) x.spare(0));
        all.add((long) x.never());
        for (int what = 0; what < 2; what++) all.add((long) x.ages(7, 6, what));
        return all;
    }

    /** In numbers that do not wrap; the lowest 64 bits of the end are what the wrapping ones have. */
    private static long digestOf(List<Long> parts) {
        BigInteger h = BigInteger.valueOf(17);
        for (long part : parts) h = h.multiply(BigInteger.valueOf(31)).add(BigInteger.valueOf(part));
        check.holds("it is beyond a long", h.bitLength() > 64);
        return h.longValue();
    }

    private static void digestWraps() {
        check.sentence("as longs that wrap");
        check.due("of a new object", new BrideDoors().digest(), digestOf(parts(new BrideDoors())));
        for (int many = 1; many <= 6; many++) {
            for (int some = 0; some <= 8; some++) {
                String houses = SIX.substring(0, 3 * many - 1), brides = some == 0 ? "" : EIGHT.substring(0, 5 * some - 1);
                int[] events = Arrays.copyOf(EVENTS, 3 * ((many + some) % 9));
                check.due("of " + many + " and " + some, Check.told(houses, brides, events).digest(),
                    digestOf(parts(Check.told(houses, brides, events))));
            }
        }
        boolean above = false, below = false;
        for (int i = 0; i < 8; i++) {
            long digest = Check.told(SIX.substring(0, 2), "", Arrays.copyOf(EVENTS, 3 * i)).digest();
            above |= digest > 0;
            below |= digest < 0;
        }
        check.holds("some wrap to above 0, some to below", above && below);
    }

    private static void digestOfEachThing() {
        check.sentence("h is 17; h becomes 31 h and each of (of each thing all that is told of it, then of the next one)");
        check.due("parts of nothing", parts(new BrideDoors()).size(), 44);
        check.due("parts of all there can be", parts(Check.told(SIX, EIGHT, EVENTS)).size(), 44 + 6 * 27 + 8 * 20);
        BrideDoors fault = Check.told("sj;", EIGHT, EVENTS);
        check.due("houses with a fault", fault.digest(), digestOf(parts(fault)));
        BrideDoors both = Check.told("sj;", "0a8", EVENTS);
        check.due("both with a fault", both.digest(), digestOf(parts(both)));
        for (int gap = 0; gap <= 20; gap++) {
            BrideDoors seen = Check.told(SIX, EIGHT, EVENTS);
            seen.seen(3, 0, seen.at(3, 0, 4));
            seen.seen(23, 2, gap);
            check.due("with what was seen", seen.digest(), digestOf(parts(seen)));
        }
    }

    private static void digestIsOfItsParts(String what, BrideDoors x) {
        check.due(what, x.digest(), digestOf(parts(x)));
    }

    /** A door that is lower behind each year in which a carpenter comes, and so behind it and not ahead of it. */
    private static void digestYearsOfHouses() {
        check.sentence("of YEARS 0, 7, 15, 23 at(the YEAR, it, 0 to 4)");
        for (int year = 0; year <= 23; year++) {
            digestIsOfItsParts("a carpenter in " + year, Check.told("st", "0a8t", 1, year, 0));
            digestIsOfItsParts("a bride in " + year, Check.told("tc", "0" + (char) ('a' + year) + "8t"));
            digestIsOfItsParts("hard times in " + year, Check.told("st;sa", "0a8t;0a8c", 0, year, 0));
        }
    }

    private static void digestYearsOfBrides() {
        check.sentence("of YEARS 7, 15, 23 door(the YEAR, it, 0 to 2)");
        for (int year = 0; year <= 23; year++) {
            digestIsOfItsParts("a burglar in " + year, Check.told("sr", "0a8t;0a8t", 2, year, 0));
            digestIsOfItsParts("one who brings none in " + year, Check.told("st", "0" + (char) ('a' + year) + "0t"));
        }
    }

    private static void digestSeen() {
        check.sentence("then was() 0, 1, ask(), chance(5, it), above, below");
        digestIsOfItsParts("asked best in the last year", Check.told("sj", "0a8t", 0, 23, 0));
        for (int gap = 0; gap <= 20; gap++) {
            BrideDoors x = Check.told("we;st", "0a8t;1a8t", 0, 9, 0, 2, 9, 1);
            x.seen(23, 0, gap);
            digestIsOfItsParts("seen at " + gap, x);
        }
        digestIsOfItsParts("a chance of 5 by 16", Check.told("sj", "0a8j", 0, 9, 0));
        digestIsOfItsParts("a chance of 0 by 1", Check.told("sj", "0a8j"));
    }

    private static void digestOfAll() {
        check.sentence("of YEARS 0 to 23 draught(); dog() 0, 1, lowest(), left() 0, 1, spare(NONE), spare(0)");
        digestIsOfItsParts("a dog in the last year", Check.told("sa;st", "1x8a"));
        digestIsOfItsParts("two that had better not be", Check.told("sj", "0a8j", 1, 1, 0, 0, 2, 0, 0, 3, 0));
        digestIsOfItsParts("none that will do", Check.told("sj;sj", "0a8j", 0, 2, 0));
        digestIsOfItsParts("some on the moor", Check.told("sj;sj", "0a8j;0a8c;1a8d", 2, 2, 0, 2, 2, 1));
        digestIsOfItsParts("a lowest door", Check.told("sj;sj", "0a8j;0a8c;1a8d", 0, 2, 0));
    }

    private static void digestPlans() {
        check.sentence("then kin(), wed() 0, 1, when() 0, 1, from() 0, 1");
        digestIsOfItsParts("best in the last year", Check.told("sj", "0a8j", 0, 23, 0));
        digestIsOfItsParts("best in the first year", Check.told("sj", "0x8j"));
        digestIsOfItsParts("best in the last house", Check.told("sa;sa;sa;sa;sa;st", "0a8t"));
        digestIsOfItsParts("best with a mother that there is not", Check.told("te", "0a8t", 0, 23, 0));
        digestIsOfItsParts("best without a mother", Check.told("st", "0a0t"));
        digestIsOfItsParts("no house to come to", Check.told("", "0a0t"));
        digestIsOfItsParts("kin that go round", Check.told("", "0a0t;0a0t"));
    }

    /** By seed 7 the sixth is a carpenter in year 1 and the seventh hard times in year 4, both at house 2. */
    private static void digestAges() {
        check.sentence("never(), ages(7, 6, 0 and 1)");
        String houses = "sg;ta;si;sj;sl;tf", brides = "4l8h;1j5a;5v6k;5q2i;0m8n;2a8g;4b1h;0t8r";
        int[][] want = {{34, 1}, {33, 1}, {30, 0}};
        for (int n = 5; n <= 7; n++) {
            for (int what = 0; what < 2; what++) {
                check.due("ages(7, " + n + ", " + what + ")", Check.told(houses, brides).ages(7, n, what), want[n - 5][what]);
            }
        }
        digestIsOfItsParts("each of them is another", Check.told(houses, brides));
        digestIsOfItsParts("whatever is told", Check.told(houses, brides, 0, 23, 0, 2, 23, 1));
    }

    private static void digestLeavesAll() {
        check.sentence("count() 0 to 7; of texts fault()");
        BrideDoors x = Check.told(SIX, EIGHT, EVENTS);
        long digest = x.digest();
        check.due("asked again", x.digest(), digest);
        x.lose(0);
        check.due("count() 8 is not in it", x.digest(), digest);
        x.sheet(0, 0, 5);
        check.due("nor are sheets", x.digest(), digest);
        check.holds("all is as it was", State.of(() -> Check.told(SIX, EIGHT, EVENTS)).equals(State.of(() -> {
            BrideDoors asked = Check.told(SIX, EIGHT, EVENTS);
            asked.digest();
            return asked;
        })));
    }
}
