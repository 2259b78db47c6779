import java.util.function.IntBinaryOperator;
import java.util.stream.IntStream;

/** Each sentence of the passage '======== 3' that names an edge, and promises 18 to 21. */
public final class PlanEdgesTest {
    private static final int NONE = -1, BAD = -2;
    private static final int[] FAR = {Integer.MIN_VALUE, Integer.MAX_VALUE};
    private static final String SIX = "st;st;st;st;st;st";
    private static final int[] EVENTS = {0, 3, 0, 1, 4, 1, 2, 6, 2, 0, 12, 1, 1, 20, 0};
    private static final String[] HOUSES = {"", "sh", "sh;wg;tc", "tb;sa;st;wk;ta;sj"};
    private static final String[] BRIDES = {"0a8j", "0a8j;1b8k;2c0a;0c2a;1c5a;2c8b;3c8b;1d7a", "2f8t;2g0e;0h1j"};
    private static final Check check = new Check();

    public static void main(String[] args) {
        wedInPlaceOfWhatIsTold();
        wedNone();
        whenInPlaceOfHers();
        fromInPlaceOfWhatIsTold();
        fromMothersThatThereAreNot();
        spareFewest();
        spareLeastRow();
        spareNone();
        wed();
        when();
        from();
        spare();
        check.finish();
    }

    interface Plan {
        int of(BrideDoors x, int bride, int what);
    }

    interface Values {
        int[] of(String houses, int bride);
    }

    /** The plan as the document tells it: another sign in the text of brides for each value, and the draught at the end. */
    private static void byRetelling(int column, char first, Values values, Plan plan) {
        for (String houses : HOUSES) {
            for (String brides : BRIDES) {
                BrideDoors x = Check.told(houses, brides, EVENTS);
                for (int b = 0; 5 * b < brides.length(); b++) {
                    int place = 5 * b + column, best = NONE, least = NONE;
                    for (int value : values.of(houses, b)) {
                        int draught = Check.told(houses, withSign(brides, place, first + value), EVENTS).draught(23);
                        if (best == NONE || draught < least) {
                            best = value;
                            least = draught;
                        }
                    }
                    String what = "'" + houses + "' '" + brides + "', of " + b;
                    check.due(what + ", which", plan.of(x, b, 0), best);
                    check.due(what + ", how much", plan.of(x, b, 1), least);
                    check.due("what is told stays so", x.bride(b, column), brides.charAt(place) - first);
                }
            }
        }
    }

    private static String withSign(String text, int place, int sign) {
        return text.substring(0, place) + (char) sign + text.substring(place + 1);
    }

    private static int[] upTo(int last, int but) {
        return IntStream.rangeClosed(0, last).filter(i -> i != but).toArray();
    }

    private static void wedInPlaceOfWhatIsTold() {
        check.sentence("the HOUSE (that there is), in place of what is told, by which the DRAUGHT behind YEAR 23 is least, of like ones the least");
        byRetelling(0, '0', (houses, b) -> upTo((houses.length() + 1) / 3 - 1, NONE), BrideDoors::wed);
        check.due("the first of like ones", Check.told(SIX, "3a8a").wed(0, 0), 0);
        check.due("the last house", Check.told("sa;sa;sa;sa;sa;sb", "3a8b").wed(0, 0), 5);
        check.due("she is told to one that there is not", Check.told("sa;sb", "5a8b").wed(0, 0), 1);
    }

    private static void wedNone() {
        check.sentence("which; how much; NONE: there are none");
        for (int what = 0; what < 2; what++) {
            check.due("no houses", Check.told("", "0a8a").wed(0, what), NONE);
            check.due("houses with a fault", Check.told("sa;", "0a8a").wed(0, what), NONE);
        }
        check.due("one house", Check.told("sb", "0a8a").wed(0, 0), 0);
        check.due("one house", Check.told("sb", "0a8a").wed(0, 1), 1);
    }

    private static void whenInPlaceOfHers() {
        check.sentence("WHEN of one of BRIDES: the YEAR, in place of hers, likewise: which; how much.");
        byRetelling(1, 'a', (houses, b) -> upTo(23, NONE), BrideDoors::when);
        check.due("the first year of like ones", Check.told("sj", "0x8j").when(0, 0), 0);
        check.due("the last year", Check.told("sj", "0a8j", 0, 23, 0).when(0, 0), 23);
        check.due("the one ahead of it", Check.told("sj", "0a8j", 0, 22, 0).when(0, 0), 22);
        check.due("no houses, which", Check.told("", "0x8j").when(0, 0), 0);
        check.due("no houses, how much", Check.told("", "0x8j").when(0, 1), 0);
    }

    private static void fromInPlaceOfWhatIsTold() {
        check.sentence("her MOTHER (0 to 8, but herself), in place of what is told, likewise: which; how much");
        byRetelling(2, '0', (houses, b) -> upTo(8, b), BrideDoors::from);
        BrideDoors like = Check.told("sj", "5a8a;5a8a;5a8a;5a8a;5a8a;5a8a;5a8a;5a8a");
        check.due("all are alike: not herself", like.from(0, 0), 1);
        check.due("all are alike: the least", like.from(7, 0), 0);
        check.due("8, none of them", Check.told("sj", "0a1j").from(0, 0), 8);
        check.due("7, the last of them", Check.told("sj;sj", "0b8a;1a8a;1a8a;1a8a;1a8a;1a8a;1a8a;1a8j").from(0, 0), 7);
        check.due("no houses, which", Check.told("", "0a8j").from(0, 0), 1);
        check.due("no houses, how much", Check.told("", "0a8j").from(0, 1), 0);
    }

    private static void fromMothersThatThereAreNot() {
        check.sentence("FROM of one of BRIDES: her MOTHER (0 to 8, but herself)");
        // with hard times at the end it is better to bring none: a mother that there is not will do
        check.due("1, of one bride", Check.told("te", "0a8t", 0, 23, 0).from(0, 0), 1);
        check.due("how much", Check.told("te", "0a8t", 0, 23, 0).from(0, 1), 5);
        check.due("told so already", Check.told("te", "0a7t", 0, 23, 0).from(0, 0), 1);
        // 0 brings a door, and her daughter would widen the house, so that 2, who is not there, is better
        BrideDoors two = Check.told("te;st", "1a8t;0b0t", 0, 23, 0);
        check.due("2, of two", two.from(1, 0), 2);
        check.due("how much", two.from(1, 1), 5);
    }

    private static void spareIs(String what, BrideDoors x, int many, int first, int second) {
        check.due(what + ": how many", x.spare(NONE), many);
        check.due(what + ": the first", x.spare(0), first);
        check.due(what + ": the second", x.spare(1), second);
    }

    private static void spareFewest() {
        check.sentence("the fewest EVENTS (0 to 2) that had better not be, so that no HOUSE is OPEN");
        spareIs("none need be spared", Check.told("sj", "0a8j", 1, 1, 0), 0, NONE, NONE);
        spareIs("one", Check.told("sj", "0a8j", 1, 1, 0, 0, 2, 0), 1, 1, NONE);
        spareIs("two", Check.told("sj", "0a8j", 1, 1, 0, 0, 2, 0, 2, 3, 0), 2, 1, 2);
        spareIs("three are too many", Check.told("sj", "0a8j", 0, 1, 0, 0, 2, 0, 2, 3, 0), NONE, NONE, NONE);
        spareIs("two doors for three", Check.told("sj", "0a8j;0a8j", 0, 1, 0, 0, 2, 0, 2, 3, 0), 2, 0, 1);
        spareIs("three doors for three", Check.told("sj", "0a8j;0a8j;0a8j", 0, 1, 0, 0, 2, 0, 2, 3, 0), 1, 0, NONE);
        spareIs("four doors for three", Check.told("sj", "0a8j;0a8j;0a8j;0a8j", 0, 1, 0, 0, 2, 0, 2, 3, 0), 0, NONE, NONE);
        BrideDoors x = Check.told("sj", "0a8j", 0, 1, 0);
        x.spare(NONE);
        check.due("it is told all the same", x.count(4), 1);
        check.due("and done", x.left(0), 1);
    }

    private static void spareLeastRow() {
        check.sentence("of like ones the least row (each more than the one ahead)");
        int[] eight = new int[24];
        for (int i = 0; i < 8; i++) {
            eight[3 * i] = 1;
            eight[3 * i + 1] = i;
        }
        for (int first = 0; first < 8; first++) {
            int[] one = eight.clone();
            one[3 * first] = 0;
            one[3 * first + 1] = 9;
            spareIs("the one that does it", Check.told("sj", "0a8j", one), 1, first, NONE);
            for (int second = first + 1; second < 8; second++) {
                int[] both = one.clone();
                both[3 * second] = 2;
                both[3 * second + 1] = 9;
                spareIs("the two that do it", Check.told("sj", "0a8j", both), 2, first, second);
                spareIs("either of two", Check.told("sj", "0a8j;0a8j", both), 1, first, NONE);
            }
        }
        // any two of four would do: 0 and 1; of 0, 3 and 1, 2 the row that begins with less
        spareIs("any two", Check.told("sj", "0a8j;0a8j;0a8j", 0, 1, 0, 0, 1, 0, 0, 1, 0, 0, 1, 0), 2, 0, 1);
    }

    private static void spareNone() {
        check.sentence("how many; the i-th; NONE");
        spareIs("no houses", new BrideDoors(), 0, NONE, NONE);
        spareIs("no brides", Check.told("sj", ""), NONE, NONE, NONE);
        spareIs("one house is never hung", Check.told("sj;sj", "0a8j", 0, 1, 0), NONE, NONE, NONE);
        spareIs("no events", Check.told("sj", "0a8j"), 0, NONE, NONE);
    }

    private static void planRefusals(String name, IntBinaryOperator plan) {
        for (int b : new int[] {-1, 2, 7, 8, FAR[0], FAR[1]}) {
            check.due(name + "(" + b + ", 0)", plan.applyAsInt(b, 0), BAD);
        }
        for (int what : new int[] {-1, 2, FAR[0], FAR[1]}) {
            check.due(name + "(0, " + what + ")", plan.applyAsInt(0, what), BAD);
        }
    }

    private static void wed() {
        check.sentence("WED: which (what = 0), how much (1); NONE. BAD.");
        BrideDoors x = Check.told("sj;sh", "0a8h;0a8c");
        check.due("of the first", x.wed(0, 0), 1);
        check.due("of the first", x.wed(0, 1), 7);
        check.due("of the last", x.wed(1, 0), 1);
        check.due("of the last", x.wed(1, 1), 7);
        planRefusals("wed", x::wed);
        check.due("BAD is ahead of NONE", Check.told("", "0a8a").wed(0, 2), BAD);
        check.due("BAD is ahead of NONE", Check.told("", "0a8a").wed(1, 0), BAD);
        check.due("no brides", Check.told("sa", "").wed(0, 0), BAD);
    }

    private static void when() {
        check.sentence("WHEN: which (what = 0), how much (1). BAD.");
        BrideDoors x = Check.told("sj;sh", "0a8h;0a8c", 0, 3, 0);
        check.due("of the first", x.when(0, 0), 3);
        check.due("of the first", x.when(0, 1), 10);
        check.due("of the last", x.when(1, 0), 0);
        check.due("of the last", x.when(1, 1), 15);
        planRefusals("when", x::when);
        check.due("no brides", Check.told("sa", "").when(0, 0), BAD);
    }

    private static void from() {
        check.sentence("FROM: which (what = 0), how much (1). BAD.");
        BrideDoors x = Check.told("sj;sj", "0a8j;1b8c");
        check.due("of the first", x.from(0, 0), 8);
        check.due("of the first", x.from(0, 1), 7);
        check.due("of the last", x.from(1, 0), 0);
        check.due("of the last", x.from(1, 1), 2);
        planRefusals("from", x::from);
        check.due("no brides", Check.told("sa", "").from(0, 0), BAD);
    }

    private static void spare() {
        check.sentence("SPARE: how many (i = NONE), the i-th (0, 1; NONE); NONE. BAD.");
        BrideDoors x = Check.told("sj", "0a8j", 0, 1, 0, 0, 2, 0);
        spareIs("two", x, 2, 0, 1);
        for (int i : new int[] {-2, 2, FAR[0], FAR[1]}) {
            check.due("spare(" + i + ")", x.spare(i), BAD);
            check.due("BAD is ahead of NONE", Check.told("sj", "").spare(i), BAD);
        }
    }
}
