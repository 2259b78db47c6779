import java.util.ArrayList;
import java.util.List;
import java.util.function.Supplier;

/**
 * The sentence about refusals, of every call: for each number that it takes the last ones that are taken, the first
 * that are refused and some far off, in villages with nothing, with all there can be, with faults and with some of
 * each; and all else is as it was.
 */
public final class RefusalsTest {
    private static final int BAD = -2, NOT = -3, FULL = -4;
    private static final long BAD_LONG = Long.MIN_VALUE + 2;
    private static final int LEAST = Integer.MIN_VALUE, MOST = Integer.MAX_VALUE;
    private static final int[] ANY = {LEAST, MOST};
    private static final String SIX = "sh;wg;tc;st;wa;tt";
    private static final String EIGHT = "0a8j;1b8k;2c0a;3c2a;4c8e;5c8b;3d8f;5d2a";
    private static final Check check = new Check();

    interface Ask {
        long of(BrideDoors x, int[] a);
    }

    /** A call, what each of its numbers may be, and what it answers if one is not so. */
    record Act(String name, long refusal, Ask ask, int[]... ranges) {
        String with(int[] a) {
            StringBuilder text = new StringBuilder(name);
            for (int number : a) text.append(' ').append(number);
            return text.toString();
        }
    }

    record Village(String name, int houses, int brides, Supplier<BrideDoors> made) { }

    public static void main(String[] args) {
        for (Village village : villages()) {
            badNumbers(village);
        }
        lastNumbers(villages().get(1));
        notAndFull();
        findings();
        longs();
        firstThatFits();
        check.finish();
    }

    private static List<Village> villages() {
        List<Village> all = new ArrayList<>();
        all.add(new Village("nothing", 0, 0, BrideDoors::new));
        all.add(new Village("all there can be", 6, 8, RefusalsTest::full));
        all.add(new Village("faults", 0, 0, RefusalsTest::faulty));
        all.add(new Village("some of each", 2, 3, RefusalsTest::some));
        return all;
    }

    private static BrideDoors full() {
        BrideDoors x = Check.told(SIX, EIGHT, 0, 3, 0, 1, 4, 1, 2, 6, 2, 0, 12, 1, 1, 20, 0, 2, 9, 3, 0, 23, 5, 1, 5, 3);
        int[] seen = {0, 0, 0, 5, 5, 0, 12, 1, 9, 23, 4, 0, 9, 3, 20, 4, 1, 1, 2, 2, 0, 3, 0, 8};
        for (int i = 0; i < seen.length; i += 3) x.seen(seen[i], seen[i + 1], seen[i + 2]);
        Check.fill(x, 0, 0, 1, 2, 3);
        Check.fill(x, 1, 1, 4, 5, 6, 7);
        Check.fill(x, 2, 2, LEAST, 8, MOST);
        x.sheet(3, 2, 60);
        return x;
    }

    private static BrideDoors faulty() {
        BrideDoors x = Check.told(SIX.substring(0, 9), EIGHT.substring(0, 18), 0, 3, 0, 2, 5, 2);
        x.seen(3, 0, 8);
        Check.fill(x, 1, 0, 2, 4, 1);
        x.lose(3);
        return x;
    }

    private static BrideDoors some() {
        BrideDoors x = Check.told("tc;wd", "0a8j;1b8e;1c0a", 0, 6, 0, 1, 7, 1);
        x.seen(2, 1, 0);
        Check.fill(x, 2, 1, 1, 8, 1, 0, 9, 0);
        return x;
    }

    private static int[] upTo(int last) {
        return new int[] {0, last};
    }

    private static List<Act> acts(int houses, int brides) {
        int[] house = upTo(houses - 1), bride = upTo(brides - 1), two = upTo(1), year = upTo(23), six = upTo(5), sheet = upTo(3);
        List<Act> all = new ArrayList<>();
        all.add(new Act("type", BAD, (x, a) -> x.type(a[0], a[1]), two, upTo(255)));
        all.add(new Act("wipe", BAD, (x, a) -> x.wipe(a[0]), two));
        all.add(new Act("undo", BAD, (x, a) -> x.undo(a[0]), two));
        all.add(new Act("fault", BAD, (x, a) -> x.fault(a[0]), two));
        all.add(new Act("house", BAD, (x, a) -> x.house(a[0], a[1]), house, two));
        all.add(new Act("bride", BAD, (x, a) -> x.bride(a[0], a[1]), bride, upTo(3)));
        all.add(new Act("event", BAD, (x, a) -> x.event(a[0], a[1], a[2]), upTo(2), year, six));
        all.add(new Act("read", BAD, (x, a) -> x.read(a[0]), sheet));
        all.add(new Act("at", BAD, (x, a) -> x.at(a[0], a[1], a[2]), year, house, upTo(4)));
        all.add(new Act("door", BAD, (x, a) -> x.door(a[0], a[1], a[2]), year, bride, upTo(2)));
        all.add(new Act("draught", BAD, (x, a) -> x.draught(a[0]), year));
        all.add(new Act("dog", BAD, (x, a) -> x.dog(a[0]), two));
        all.add(new Act("kin", BAD, (x, a) -> x.kin(a[0]), bride));
        all.add(new Act("left", BAD, (x, a) -> x.left(a[0]), two));
        all.add(new Act("wed", BAD, (x, a) -> x.wed(a[0], a[1]), bride, two));
        all.add(new Act("when", BAD, (x, a) -> x.when(a[0], a[1]), bride, two));
        all.add(new Act("from", BAD, (x, a) -> x.from(a[0], a[1]), bride, two));
        all.add(new Act("spare", BAD, (x, a) -> x.spare(a[0]), new int[] {-1, 1}));
        all.add(new Act("seen", BAD, (x, a) -> x.seen(a[0], a[1], a[2]), year, six, upTo(20)));
        all.add(new Act("was", BAD, (x, a) -> x.was(a[0], a[1]), house, two));
        all.add(new Act("ask", BAD, (x, a) -> x.ask(a[0]), house));
        all.add(new Act("chance", BAD_LONG, (x, a) -> x.chance(a[0], a[1], a[2]), upTo(16), house, two));
        all.add(new Act("ages", BAD, (x, a) -> x.ages(a[0], a[1], a[2]), ANY, upTo(8), two));
        all.add(new Act("sheet", BAD, (x, a) -> x.sheet(a[0], a[1], a[2]), sheet, upTo(2), new int[] {LEAST, 60}));
        all.add(new Act("lose", BAD, (x, a) -> x.lose(a[0]), sheet));
        all.add(new Act("lay", BAD, (x, a) -> x.lay(a[0], a[1], a[2], a[3]), sheet, upTo(2), ANY, ANY));
        all.add(new Act("get", LEAST, (x, a) -> x.get(a[0], a[1], a[2]), sheet, upTo(2), ANY));
        all.add(new Act("copy", BAD, (x, a) -> x.copy(a[0], a[1], a[2], a[3], a[4]), sheet, ANY, sheet, ANY, ANY));
        all.add(new Act("write", BAD, (x, a) -> x.write(a[0], a[1]), house, sheet));
        all.add(new Act("count", BAD, (x, a) -> x.count(a[0]), upTo(8)));
        return all;
    }

    /** The first numbers outside a range, ones whose lowest bits are inside it, and the farthest. */
    private static List<Integer> outside(int[] range) {
        List<Integer> all = new ArrayList<>();
        long[] tried = {range[0] - 1L, range[1] + 1L, range[0] - 256L, range[0] + 256L, range[0] + 65536L, LEAST, MOST};
        for (long number : tried) {
            boolean isInt = number >= LEAST && number <= MOST;
            if (isInt && (number < range[0] || number > range[1])) all.add((int) number);
        }
        return all;
    }

    private static int[] leastOf(Act act) {
        int[] a = new int[act.ranges().length];
        for (int i = 0; i < a.length; i++) {
            int[] range = act.ranges()[i];
            a[i] = range[0] == LEAST ? 0 : range[0];
        }
        return a;
    }

    private static void badNumbers(Village village) {
        check.sentence("BAD -2 (a number not as told, no such thing)");
        List<Long> before = State.of(village.made());
        for (Act act : acts(village.houses(), village.brides())) {
            for (int i = 0; i < act.ranges().length; i++) {
                List<Integer> wrong = outside(act.ranges()[i]);
                if (act.ranges()[i][0] > act.ranges()[i][1]) wrong.add(0);
                for (int number : wrong) {
                    int[] a = leastOf(act);
                    a[i] = number;
                    refused(village, before, act, a);
                }
            }
        }
    }

    private static void refused(Village village, List<Long> before, Act act, int[] a) {
        String what = village.name() + ": " + act.with(a);
        check.due(what, act.ask().of(village.made().get(), a), act.refusal());
        check.holds(what + " leaves all as it was", State.of(() -> {
            BrideDoors x = village.made().get();
            act.ask().of(x, a);
            return x;
        }).equals(before));
    }

    private static void lastNumbers(Village village) {
        check.sentence("(a number not as told, no such thing)");
        for (Act act : acts(village.houses(), village.brides())) {
            for (int i = 0; i < act.ranges().length; i++) {
                for (int number : act.ranges()[i]) {
                    int[] a = leastOf(act);
                    a[i] = number;
                    long answer = act.ask().of(village.made().get(), a);
                    // of an item the refusals are all alike: SheetEdgesTest asks which it was
                    check.holds(act.with(a) + " is not BAD", answer != act.refusal() || act.name().equals("get"));
                }
            }
        }
    }

    private static void leaves(String what, Supplier<BrideDoors> made, Ask ask, long want) {
        check.due(what, ask.of(made.get(), null), want);
        check.holds(what + " leaves all as it was", State.of(made).equals(State.of(() -> {
            BrideDoors x = made.get();
            ask.of(x, null);
            return x;
        })));
    }

    private static void notAndFull() {
        check.sentence("They change nothing (FINDINGS but count() 8).");
        leaves("undo(0) of an empty text", BrideDoors::new, (x, a) -> x.undo(0), NOT);
        leaves("undo(1) of an empty text", () -> Check.told(SIX, ""), (x, a) -> x.undo(1), NOT);
        leaves("back() of none", () -> Check.told(SIX, EIGHT), (x, a) -> x.back(), NOT);
        for (int b = 0; b < 256; b += 51) {
            int sign = b;
            leaves("type(0, " + b + ")", RefusalsTest::full, (x, a) -> x.type(0, sign), FULL);
            leaves("type(1, " + b + ")", RefusalsTest::full, (x, a) -> x.type(1, sign), FULL);
        }
        leaves("a ninth event", RefusalsTest::full, (x, a) -> x.event(0, 1, 0), FULL);
        leaves("a ninth seen", RefusalsTest::full, (x, a) -> x.seen(0, 0, 1), FULL);
        leaves("read() without room", RefusalsTest::full, (x, a) -> x.read(3), 0);
        leaves("wed() without houses", () -> Check.told("", EIGHT), (x, a) -> x.wed(0, 0), -1);
    }

    /** The states are alike but for count(8), which is the ninth of what they ask first. */
    private static void finds(String what, Supplier<BrideDoors> made, Ask ask, long want, long number) {
        check.due(what, ask.of(made.get(), null), want);
        List<Long> before = State.of(made), behind = State.of(() -> {
            BrideDoors x = made.get();
            ask.of(x, null);
            return x;
        });
        check.due(what + ", count(8)", behind.get(8), number);
        before.set(8, number);
        check.holds(what + " leaves all else as it was", before.equals(behind));
    }

    private static void findings() {
        check.sentence("BAD -2 (a number not as told, no such thing), NULL, NOT -3 (as told), FULL -4, other FINDINGS.");
        for (Supplier<BrideDoors> made : List.<Supplier<BrideDoors>>of(BrideDoors::new, RefusalsTest::some)) {
            finds("lose(3)", made, (x, a) -> x.lose(3), -11, 1);
            finds("read(3)", made, (x, a) -> x.read(3), -11, 1);
            finds("lay(3, ..)", made, (x, a) -> x.lay(3, 2, 61, 1), -11, 1);
            finds("get(3, ..)", made, (x, a) -> x.get(3, 0, 0), LEAST, 1);
            finds("copy(3, .. 3, ..)", made, (x, a) -> x.copy(3, -1, 3, -1, -1), -11, 1);
            finds("sheet(3, 0, -1)", made, (x, a) -> x.sheet(3, 0, -1), -15, 5);
            finds("sheet(2, 0, LEAST)", made, (x, a) -> x.sheet(2, 0, LEAST), -15, 5);
        }
        finds("write(0, 0)", RefusalsTest::some, (x, a) -> x.write(0, 0), -11, 1);
        Supplier<BrideDoors> full = RefusalsTest::full;
        finds("NULL is ahead of there being no room", () -> {
            BrideDoors x = full();
            x.lose(3);
            return x;
        }, (x, a) -> x.read(3), -11, 1);
        finds("lay, another form", full, (x, a) -> x.lay(0, 1, 0, 9), -13, 3);
        finds("lay, no such item", full, (x, a) -> x.lay(0, 0, 3, 9), -12, 2);
        finds("lay, no such item", full, (x, a) -> x.lay(1, 1, -1, 9), -12, 2);
        finds("get, another form", full, (x, a) -> x.get(0, 1, 0), LEAST, 3);
        finds("get, no such item", full, (x, a) -> x.get(2, 2, 3), LEAST, 2);
        finds("copy, unlike forms", full, (x, a) -> x.copy(0, 0, 1, 0, 1), -14, 4);
        finds("copy, not so many in s", full, (x, a) -> x.copy(2, 2, 3, 0, 2), -12, 2);
        finds("copy, not so many in t", full, (x, a) -> x.copy(3, 0, 2, 2, 2), -12, 2);
        finds("copy within one, not so many", full, (x, a) -> x.copy(1, 0, 1, 1, 4), -12, 2);
        finds("copy, below 0", full, (x, a) -> x.copy(1, 0, 1, 0, -1), -12, 2);
    }

    private static void longs() {
        check.sentence("Where the answer is a long, a refusal -x is the least long and x more.");
        check.due("c", Check.told("sj", "").chance(17, 0, 0), Long.MIN_VALUE + 2);
        check.due("house", Check.told("sj", "").chance(16, 1, 0), Long.MIN_VALUE + 2);
        check.due("what", Check.told("sj", "").chance(16, 0, 2), Long.MIN_VALUE + 2);
    }

    private static void firstThatFits() {
        check.sentence("Refusals, the first that fits, in the order told at each act");
        check.due("type: BAD, then FULL", full().type(0, 256), BAD);
        check.due("type: FULL", full().type(0, 255), FULL);
        check.due("undo: BAD, then NOT", new BrideDoors().undo(2), BAD);
        check.due("undo: NOT", new BrideDoors().undo(1), NOT);
        check.due("event: BAD, then FULL", full().event(0, 24, 0), BAD);
        check.due("event: FULL", full().event(0, 23, 0), FULL);
        check.due("read: BAD, then NULL", new BrideDoors().read(4), BAD);
        check.due("read: NULL", new BrideDoors().read(3), -11);
        check.due("seen: BAD, then FULL", full().seen(0, 0, 21), BAD);
        check.due("seen: FULL", full().seen(0, 0, 20), FULL);
        check.due("sheet: BAD, then SIZE", new BrideDoors().sheet(0, 3, -1), BAD);
        check.due("sheet: SIZE", new BrideDoors().sheet(0, 2, -1), -15);
        check.due("lose: BAD, then NULL", new BrideDoors().lose(4), BAD);
        check.due("lose: NULL", new BrideDoors().lose(3), -11);
        check.due("lay: BAD, then NULL", new BrideDoors().lay(0, 3, 0, 0), BAD);
        check.due("lay: NULL, then CAST, then INDEX", new BrideDoors().lay(0, 2, -1, 0), -11);
        check.due("lay: CAST, then INDEX", full().lay(0, 2, -1, 0), -13);
        check.due("lay: INDEX", full().lay(0, 0, -1, 0), -12);
        check.due("copy: BAD, then NULL", new BrideDoors().copy(0, 0, 4, 0, 0), BAD);
        check.due("copy: NULL, then STORE, then INDEX", new BrideDoors().copy(0, -1, 1, 0, 0), -11);
        check.due("copy: STORE, then INDEX", full().copy(0, -1, 1, 0, 0), -14);
        check.due("copy: INDEX", full().copy(2, -1, 3, 0, 0), -12);
        check.due("write: BAD, then NULL", new BrideDoors().write(0, 0), BAD);
        check.due("write: NULL", Check.told("sj", "").write(0, 0), -11);
    }
}
