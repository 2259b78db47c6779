/** Promises 8 to 10: event, back, read. */
public final class EventsTest {
    private static final int BAD = -2, NOT = -3, FULL = -4;
    private static final Check check = new Check();

    public static void main(String[] args) {
        event();
        back();
        readWhole();
        readUntilOneMayNotBe();
        readWhileThereIsRoom();
        readRefusals();
        check.finish();
    }

    private static void event() {
        BrideDoors x = new BrideDoors();
        int[][] bad = {{-1, 0, 0}, {3, 0, 0}, {0, -1, 0}, {0, 24, 0}, {0, 0, -1}, {0, 0, 6}};
        for (int[] e : bad) {
            check.due("event(" + e[0] + ", " + e[1] + ", " + e[2] + ")", x.event(e[0], e[1], e[2]), BAD);
        }
        check.due("the least event", x.event(0, 0, 0), 1);
        check.due("the greatest, of a house that is not there", x.event(2, 23, 5), 2);
        for (int i = 3; i <= 8; i++) {
            check.due("event " + i, x.event(1, i, 1), i);
        }
        check.due("a ninth event", x.event(1, 0, 1), FULL);
        check.due("BAD is ahead of FULL", x.event(3, 0, 1), BAD);
        check.due("refusals tell nothing", x.count(4), 8);
    }

    private static void back() {
        BrideDoors x = Check.told("sj", "0a8j");
        check.due("back() of none", x.back(), NOT);
        x.event(1, 1, 0);
        x.event(0, 2, 0);
        check.due("burnt", x.at(23, 0, 4), 10);
        check.due("back()", x.back(), 1);
        check.due("the last one is undone", x.at(23, 0, 4), 1);
        check.due("back()", x.back(), 0);
        check.due("the first one is undone", x.at(23, 0, 4), 0);
        check.due("back() of none", x.back(), NOT);
    }

    private static void readWhole() {
        for (int form = 0; form < 3; form++) {
            BrideDoors x = Check.told("sj;sj", "0a8j;1a8j");
            Check.fill(x, form, form, 1, 4, 0, 0, 5, 1, 2, 6);
            check.due("read(), two whole events of form " + form, x.read(form), 2);
            check.due("events", x.count(4), 2);
            check.due("the carpenter came", x.at(4, 0, 4), 1);
            check.due("hard times came", x.at(5, 1, 4), 10);
            check.due("and not a year ahead", x.at(4, 1, 4), 0);
            check.due("read() again", x.read(form), 2);
            check.due("events", x.count(4), 4);
            check.due("the sheet is as it was", x.get(form, form, 7), 6);
        }
        BrideDoors x = new BrideDoors();
        x.sheet(0, 0, 0);
        check.due("read() of no items", x.read(0), 0);
        Check.fill(x, 0, 0, 1, 1);
        check.due("read() of two items", x.read(0), 0);
        Check.fill(x, 0, 0, 1, 1, 1);
        check.due("read() of three items", x.read(0), 1);
    }

    private static void readUntilOneMayNotBe() {
        int[][] bad = {{3, 0, 0}, {-1, 0, 0}, {0, 24, 0}, {0, -1, 0}, {0, 0, 6}, {0, 0, -1}};
        for (int[] e : bad) {
            BrideDoors x = new BrideDoors();
            Check.fill(x, 3, 2, 2, 23, 5, e[0], e[1], e[2], 0, 0, 0);
            check.due("read() ends at (" + e[0] + ", " + e[1] + ", " + e[2] + ")", x.read(3), 1);
            check.due("events", x.count(4), 1);
        }
    }

    private static void readWhileThereIsRoom() {
        BrideDoors x = new BrideDoors();
        for (int i = 0; i < 6; i++) {
            x.event(0, 0, 0);
        }
        x.sheet(1, 1, 60);
        check.due("read() until there is no room", x.read(1), 2);
        check.due("read() without room", x.read(1), 0);
        check.due("events", x.count(4), 8);
    }

    private static void readRefusals() {
        BrideDoors x = new BrideDoors();
        check.due("read(-1)", x.read(-1), BAD);
        check.due("read(4)", x.read(4), BAD);
        check.due("BAD is no finding", x.count(8), 0);
        check.due("read() of a lost sheet", x.read(3), -11);
        check.due("its finding", x.count(8), 1);
        check.due("events", x.count(4), 0);
    }
}
