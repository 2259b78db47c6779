/** Promises 18 to 21: wed, when, from, spare. */
public final class PlansTest {
    private static final int NONE = -1, BAD = -2;
    private static final Check check = new Check();

    public static void main(String[] args) {
        wed();
        when();
        from();
        refusals();
        spare();
        spareAfterEachChange();
        check.finish();
    }

    private static void wed() {
        BrideDoors x = Check.told("sc;sj", "5a8d");
        check.due("wed: which", x.wed(0, 0), 1);
        check.due("wed: how much", x.wed(0, 1), 9);
        check.due("what is told stays so", x.bride(0, 0), 5);
        check.due("and she has not come", x.door(23, 0, 0), 0);
        BrideDoors like = Check.told("sj;sc", "1a8c");
        check.due("of like ones the least", like.wed(0, 0), 0);
        check.due("how much", like.wed(0, 1), 10);
        BrideDoors none = Check.told("", "0a8c");
        check.due("no houses: which", none.wed(0, 0), NONE);
        check.due("no houses: how much", none.wed(0, 1), NONE);
        // the mother's house is the wrong one: hard times burn there what her daughter should get
        BrideDoors mother = Check.told("sj;si", "0a8j;1c0a");
        mother.event(0, 2, 0);
        check.due("a mother: which", mother.wed(0, 0), 1);
        check.due("a mother: how much", mother.wed(0, 1), 10);
    }

    private static void when() {
        BrideDoors x = Check.told("sj", "0a8j");
        x.event(0, 5, 0);
        check.due("when: which", x.when(0, 0), 5);
        check.due("when: how much", x.when(0, 1), 0);
        check.due("what is told stays so", x.bride(0, 1), 0);
        x.back();
        x.event(1, 23, 0);
        check.due("in the last year", x.when(0, 0), 23);
        x.back();
        check.due("of like ones the least", x.when(0, 0), 0);
        BrideDoors none = Check.told("", "0c8j");
        check.due("no houses: which", none.when(0, 0), 0);
        check.due("no houses: how much", none.when(0, 1), 0);
    }

    private static void from() {
        BrideDoors x = Check.told("sj;sj", "0a8h;1b8c");
        check.due("from(1): which", x.from(1, 0), 0);
        check.due("from(1): how much", x.from(1, 1), 6);
        check.due("from(0): which", x.from(0, 0), 8);
        check.due("from(0): how much", x.from(0, 1), 9);
        check.due("what is told stays so", x.bride(1, 2), 8);
        BrideDoors like = Check.told("sj", "1a8b;1a8b;1a8b");
        check.due("never herself", like.from(0, 0), 1);
        check.due("of like ones the least", like.from(2, 0), 0);
        check.due("how much", like.from(2, 1), 10);
        // with a door of her own she widens the house, so it is better that she brings none
        BrideDoors none = Check.told("te", "0a8j;0b8t");
        none.event(0, 23, 0);
        check.due("a mother that there is not: which", none.from(1, 0), 0);
        none.event(1, 1, 0);
        check.due("a mother with a lower door", none.from(1, 0), 0);
        BrideDoors alone = Check.told("te", "0a8t");
        alone.event(0, 23, 0);
        check.due("alone: which", alone.from(0, 0), 1);
        check.due("alone: how much", alone.from(0, 1), 5);
    }

    private static void refusals() {
        BrideDoors x = Check.told("sj", "0a8j");
        int[][] wrong = {{-1, 0}, {1, 0}, {0, -1}, {0, 2}};
        for (int[] w : wrong) {
            String args = "(" + w[0] + ", " + w[1] + ")";
            check.due("wed" + args, x.wed(w[0], w[1]), BAD);
            check.due("when" + args, x.when(w[0], w[1]), BAD);
            check.due("from" + args, x.from(w[0], w[1]), BAD);
        }
        check.due("spare(-2)", x.spare(-2), BAD);
        check.due("spare(2)", x.spare(2), BAD);
    }

    private static void spared(String what, BrideDoors x, int many, int first, int second) {
        check.due(what + ": spare(NONE)", x.spare(NONE), many);
        check.due(what + ": spare(0)", x.spare(0), first);
        check.due(what + ": spare(1)", x.spare(1), second);
    }

    /** The class remembers which houses are open without which events: each change must make it forget. */
    private static void spareAfterEachChange() {
        BrideDoors x = Check.told("sj", "0a8j");
        check.due("a door", x.spare(NONE), 0);
        x.undo(1);
        check.due("undo: no bride", x.spare(NONE), NONE);
        x.type(1, 'j');
        check.due("type: a door", x.spare(NONE), 0);
        x.wipe(1);
        check.due("wipe: no bride", x.spare(NONE), NONE);
        x.wipe(0);
        check.due("wipe: no house", x.spare(NONE), 0);
        Check.retype(x, 0, "sj");
        Check.retype(x, 1, "0a8j");
        check.due("type: a door", x.spare(NONE), 0);
        x.sheet(0, 0, 3);
        x.lay(0, 0, 1, 2);
        x.read(0);
        check.due("read: hard times", x.spare(NONE), 1);
        x.back();
        check.due("back: no hard times", x.spare(NONE), 0);
        x.event(2, 5, 0);
        check.due("event: a burglar", x.spare(NONE), 1);
    }

    private static void spare() {
        spared("no houses", new BrideDoors(), 0, NONE, NONE);
        spared("no bride", Check.told("sj", ""), NONE, NONE, NONE);
        BrideDoors x = Check.told("sj", "0a8j");
        x.event(1, 1, 0);
        spared("no event that takes a door", x, 0, NONE, NONE);
        x.event(0, 2, 0);
        spared("one that does", x, 1, 1, NONE);
        x.event(2, 2, 5);
        spared("one that does, and one elsewhere", x, 1, 1, NONE);
        x.event(2, 3, 0);
        spared("two that do", x, 2, 1, 3);
        x.event(0, 4, 0);
        spared("three that do", x, NONE, NONE, NONE);
        x.back();
        x.back();
        spared("what was told undone", x, 1, 1, NONE);
        Check.retype(x, 1, "0a8j;0a8j");
        spared("another door", x, 0, NONE, NONE);
        x.event(2, 3, 0);
        spared("either of two", x, 1, 1, NONE);
        BrideDoors first = Check.told("sj", "0a8j");
        first.event(0, 1, 0);
        first.event(1, 1, 0);
        first.event(2, 2, 0);
        spared("the first and the last of three", first, 2, 0, 2);
        BrideDoors pairs = Check.told("sj;sj", "0a8j;1a8j");
        pairs.event(1, 1, 0);
        pairs.event(0, 2, 1);
        pairs.event(0, 3, 0);
        pairs.event(2, 4, 0);
        spared("three of two houses", pairs, NONE, NONE, NONE);
        pairs.back();
        spared("one of each", pairs, 2, 1, 2);
        // her daughter gets a door only if her own still hangs
        BrideDoors mother = Check.told("sj;sj", "0a8j;1c0a;0c8j");
        mother.event(0, 2, 0);
        spared("a mother", mother, 1, 0, NONE);
    }
}
