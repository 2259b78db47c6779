/** Promises 22 to 28: seen, forget, never, was, ask, chance, ages. */
public final class SeenTest {
    private static final int BAD = -2, FULL = -4;
    private static final long BAD_LONG = Long.MIN_VALUE + 2;
    private static final Check check = new Check();

    public static void main(String[] args) {
        seenAndForget();
        never();
        opened();
        sort();
        ask();
        chance();
        chanceRefusals();
        ages();
        check.finish();
    }

    private static void seenAndForget() {
        BrideDoors x = new BrideDoors();
        int[][] bad = {{-1, 0, 0}, {24, 0, 0}, {0, -1, 0}, {0, 6, 0}, {0, 0, -1}, {0, 0, 21}};
        for (int[] s : bad) {
            check.due("seen(" + s[0] + ", " + s[1] + ", " + s[2] + ")", x.seen(s[0], s[1], s[2]), BAD);
        }
        check.due("forget() of none", x.forget(), 0);
        check.due("the least", x.seen(0, 0, 0), 1);
        check.due("the greatest", x.seen(23, 5, 20), 2);
        for (int i = 3; i <= 8; i++) {
            check.due("seen " + i, x.seen(i, 1, 2), i);
        }
        check.due("a ninth", x.seen(0, 0, 0), FULL);
        check.due("BAD is ahead of FULL", x.seen(0, 0, 21), BAD);
        check.due("how many", x.count(7), 8);
        check.due("forget()", x.forget(), 8);
        check.due("how many", x.count(7), 0);
        check.due("seen again", x.seen(0, 0, 0), 1);
    }

    private static void never() {
        BrideDoors x = Check.told("sj", "0a8j");
        check.due("no events", x.never(), 0);
        x.event(1, 1, 0);
        x.event(0, 2, 0);
        check.due("nothing seen", x.never(), 3);
        x.seen(1, 0, 0);
        check.due("the carpenter was not", x.never(), 1);
        x.seen(23, 0, 1);
        check.due("both cannot be", x.never(), 0);
        x.forget();
        x.seen(23, 0, 1);
        check.due("the hard times were not", x.never(), 2);
        x.forget();
        x.seen(0, 0, 0);
        check.due("either", x.never(), 3);
        x.seen(23, 1, 0);
        check.due("a house that is not there", x.never(), 0);
        x.forget();
        x.seen(23, 0, 0);
        check.due("each by itself", x.never(), 0);
    }

    private static void opened() {
        BrideDoors x = Check.told("sj", "0c8e");
        check.due("nothing seen", x.was(0, 0), 2097150);
        x.seen(2, 0, 0);
        check.due("as high as the door, or less", x.was(0, 0), 62);
        x.forget();
        x.seen(0, 0, 7);
        check.due("ahead of her", x.was(0, 0), 128);
        check.due("what is told stays so", x.house(0, 1), 10);
        x.seen(2, 0, 2);
        check.due("and behind", x.was(0, 0), 128);
        x.seen(2, 0, 3);
        check.due("never", x.was(0, 0), 0);
        String[] told = {"se", "we", "te"};
        int[] seven = {1 << 7, 1 << 5, 0}, ten = {1 << 10, 1 << 8 | 1 << 9 | 1 << 10, 2046};
        for (int sort = 0; sort < 3; sort++) {
            BrideDoors burnt = Check.told(told[sort], "0c8j");
            burnt.event(0, 3, 0);
            burnt.seen(3, 0, 7);
            check.due(told[sort] + " at 7", burnt.was(0, 0), seven[sort]);
            burnt.forget();
            burnt.seen(3, 0, 10);
            check.due(told[sort] + " at 10", burnt.was(0, 0), ten[sort]);
        }
        BrideDoors two = Check.told("sj;sj", "");
        two.seen(0, 1, 10);
        check.due("of one house, the other as told", two.was(0, 0), 2097150);
        two.seen(0, 1, 9);
        check.due("whatever the one, the other never", two.was(0, 0), 0);
        two.forget();
        two.seen(0, 2, 9);
        check.due("a house that is not there", two.was(0, 0), 0);
    }

    private static void sort() {
        int[] gaps = {5, 7, 10, 6}, want = {1, 2, 4, 0};
        for (String told : new String[] {"se", "we", "te"}) {
            for (int i = 0; i < gaps.length; i++) {
                BrideDoors x = Check.told(told, "0c8j");
                x.event(0, 3, 0);
                check.due("nothing seen", x.was(0, 1), 7);
                x.seen(3, 0, gaps[i]);
                check.due(told + ": the sort by a gap of " + gaps[i], x.was(0, 1), want[i]);
                check.due("what is told stays so", x.house(0, 0), "swt".indexOf(told.charAt(0)));
            }
        }
        BrideDoors x = Check.told("se", "");
        int[][] bad = {{-1, 0}, {1, 0}, {0, -1}, {0, 2}};
        for (int[] b : bad) {
            check.due("was(" + b[0] + ", " + b[1] + ")", x.was(b[0], b[1]), BAD);
        }
    }

    private static void ask() {
        BrideDoors x = Check.told("sj", "0a8e");
        check.due("all years alike", x.ask(0), 0);
        x.event(0, 7, 0);
        check.due("behind the hard times all gaps differ", x.ask(0), 7);
        check.due("what is told stays so", x.house(0, 1), 10);
        x.seen(0, 0, 3);
        check.due("one of opened", x.ask(0), 0);
        x.seen(0, 0, 4);
        check.due("none of opened", x.ask(0), 0);
        // behind year 0 the heights 1 to 10 are alike, behind year 5 1 to 6 of them, behind year 9 all differ but 1 to 4
        BrideDoors narrower = Check.told("sj", "0a8j;0a8f;0a8d");
        narrower.event(0, 9, 0);
        narrower.event(0, 5, 0);
        narrower.event(0, 5, 5);
        check.due("the fewest alike", narrower.ask(0), 9);
        narrower.back();
        narrower.seen(5, 0, 0);
        check.due("of those that fit", narrower.ask(0), 9);
        BrideDoors least = Check.told("sj", "0a8t");
        least.event(1, 1, 0);
        check.due("the carpenter leaves 1 alone, as none is lower", least.ask(0), 1);
        BrideDoors greatest = Check.told("sj", "0a8t;0a8s");
        greatest.event(0, 1, 0);
        check.due("only of 20 it makes a difference which is burnt", greatest.ask(0), 1);
        check.due("ask(1)", x.ask(1), BAD);
        check.due("ask(-1)", x.ask(-1), BAD);
    }

    private static void chanceIs(String what, BrideDoors x, int c, int house, long above, long below) {
        check.due(what + ", above", x.chance(c, house, 0), above);
        check.due(what + ", below", x.chance(c, house, 1), below);
    }

    private static void chance() {
        BrideDoors x = Check.told("sj;sj", "0a8j");
        chanceIs("a house with a door", x, 7, 0, 0, 1);
        chanceIs("a house without", x, 7, 1, 1, 1);
        x.event(0, 1, 0);
        chanceIs("no sixteenth", x, 0, 0, 0, 1);
        chanceIs("one", x, 1, 0, 1, 16);
        chanceIs("four", x, 4, 0, 1, 4);
        chanceIs("sixteen", x, 16, 0, 1, 1);
        chanceIs("the other house", x, 4, 1, 1, 1);
        x.event(2, 2, 0);
        chanceIs("either of two", x, 4, 0, 7, 16);
        Check.retype(x, 1, "0a8j;0a8j");
        chanceIs("both of two", x, 6, 0, 9, 64);
        x.back();
        chanceIs("what was told undone", x, 6, 0, 0, 1);
        // the daughter has a door unless her mother's was taken in time
        BrideDoors mother = Check.told("sj;sj", "0a8j;1c0a");
        mother.event(0, 2, 0);
        mother.event(0, 3, 0);
        chanceIs("the daughter's house", mother, 3, 1, 3, 16);
        chanceIs("the mother's house", mother, 3, 0, 87, 256);
        BrideDoors eight = Check.told("sj", "0a8a;0a8a;0a8a;0a8a;0a8a;0a8a;0a8a;0a8a");
        for (int i = 0; i < 8; i++) {
            eight.event(0, 1 + i, 0);
        }
        chanceIs("all of eight", eight, 15, 0, 2562890625L, 4294967296L);
        chanceIs("all of eight, surely", eight, 16, 0, 1, 1);
        chanceIs("all of eight, by halves", eight, 8, 0, 1, 256);
    }

    private static void chanceRefusals() {
        BrideDoors x = Check.told("sj", "");
        int[][] bad = {{-1, 0, 0}, {17, 0, 0}, {5, -1, 0}, {5, 1, 0}, {5, 0, -1}, {5, 0, 2}};
        for (int[] b : bad) {
            check.due("chance(" + b[0] + ", " + b[1] + ", " + b[2] + ")", x.chance(b[0], b[1], b[2]), BAD_LONG);
        }
    }

    private static void agesAre(String houses, String brides, int seed, int n, int draught, int moor) {
        BrideDoors x = Check.told(houses, brides);
        x.event(0, 23, 0);
        String call = houses + " " + brides + " ages(" + seed + ", " + n + ", ";
        check.due(call + "0)", x.ages(seed, n, 0), draught);
        check.due(call + "1)", x.ages(seed, n, 1), moor);
        check.due("events stay as told", x.count(4), 1);
    }

    /** The lots: 0 gives (0, 20, 0), (0, 18, 3); 46 (2, 11, 0); -1 (1, 17, 4), (2, 1, 4), (1, 7, 0); 598 (2, 8, 0), (2, 9, 0);
     * of 77 the eighth, (2, 14, 0), is the first at house 0. */
    private static void ages() {
        agesAre("sj", "0a8j", 46, 0, 0, 0);
        agesAre("sj", "0k8j", 46, 1, 10, 1);
        agesAre("sj", "0l8j", 46, 1, 0, 0);
        agesAre("sj", "0t8j", 0, 1, 10, 0);
        agesAre("sj", "0u8j", 0, 1, 0, 0);
        agesAre("sj;sa;sa;sj", "3r8j;1a8a;2a8a;0u8j", 0, 1, 0, 0);
        agesAre("sj;sa;sa;sj", "3r8j;1a8a;2a8a;0u8j", 0, 2, 10, 0);
        agesAre("sj", "0a8j", -1, 2, 0, 0);
        agesAre("sj", "0a8j", -1, 3, 1, 0);
        agesAre("sj", "0a8j;0a8c", 598, 1, 0, 1);
        agesAre("sj", "0a8j;0a8c", 598, 2, 10, 2);
        agesAre("sj", "0a8j", 77, 7, 0, 0);
        agesAre("sj", "0a8j", 77, 8, 10, 1);
        agesAre("", "", -2147483648, 8, 0, 0);
        BrideDoors x = new BrideDoors();
        int[][] bad = {{7, -1, 0}, {7, 9, 0}, {7, 6, -1}, {7, 6, 2}};
        for (int[] b : bad) {
            check.due("ages(" + b[0] + ", " + b[1] + ", " + b[2] + ")", x.ages(b[0], b[1], b[2]), BAD);
        }
    }
}
