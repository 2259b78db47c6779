/** Promises 35 and 36: count, digest. */
public final class DigestTest {
    private static final int BAD = -2;
    private static final Check check = new Check();
    private static long h;

    public static void main(String[] args) {
        count();
        digestOfNothing();
        digestIsWhatIsAsked(village());
        digestIsWhatIsAsked(Check.told("sh;", "0a8j;1b8k"));
        digestIsWhatIsAsked(Check.told("sh;wg", "0a8j;1b8"));
        digestIsWhatIsAsked(Check.told("", "0a8j;1b8k"));
        digestChangesNothing();
        check.finish();
    }

    private static BrideDoors village() {
        BrideDoors x = Check.told("sh;wg;tc", "0a8j;1b8k;2c0a;0c2a;1c5a;2c8b;3c8b;1d7a");
        x.event(0, 6, 2);
        x.event(2, 5, 2);
        x.event(0, 4, 0);
        x.event(1, 3, 0);
        x.seen(3, 0, 1);
        return x;
    }

    private static void count() {
        BrideDoors x = village();
        check.due("count(6), asked first", x.count(6), 2);
        x.lose(0);
        x.sheet(0, 0, -1);
        int[] want = {3, 8, 8, 39, 4, 11, 2, 1, 5};
        for (int what = 0; what < want.length; what++) {
            check.due("count(" + what + ")", x.count(what), want[what]);
        }
        check.due("count(-1)", x.count(-1), BAD);
        check.due("count(9)", x.count(9), BAD);
    }

    private static void add(long value) {
        h = 31 * h + value;
    }

    private static void digestOfNothing() {
        h = 17;
        for (int i = 0; i < 8; i++) add(0);
        add(-1);
        add(-1);
        for (int year = 0; year < 24; year++) add(0);
        for (long value : new long[] {-1, -1, -1, 0, 0, 0, -1, 0, 0, 0}) add(value);
        check.due("digest() of a new object", new BrideDoors().digest(), h);
    }

    private static void addHouse(BrideDoors x, int house) {
        add(x.house(house, 0));
        add(x.house(house, 1));
        for (int year : new int[] {0, 7, 15, 23}) {
            for (int what = 0; what <= 4; what++) add(x.at(year, house, what));
        }
        add(x.was(house, 0));
        add(x.was(house, 1));
        add(x.ask(house));
        add(x.chance(5, house, 0));
        add(x.chance(5, house, 1));
    }

    private static void addBride(BrideDoors x, int bride) {
        for (int what = 0; what <= 3; what++) add(x.bride(bride, what));
        for (int year : new int[] {7, 15, 23}) {
            for (int what = 0; what <= 2; what++) add(x.door(year, bride, what));
        }
        add(x.kin(bride));
        for (int what = 0; what <= 1; what++) add(x.wed(bride, what));
        for (int what = 0; what <= 1; what++) add(x.when(bride, what));
        for (int what = 0; what <= 1; what++) add(x.from(bride, what));
    }

    private static void digestIsWhatIsAsked(BrideDoors x) {
        h = 17;
        for (int what = 0; what <= 7; what++) add(x.count(what));
        add(x.fault(0));
        add(x.fault(1));
        for (int house = 0; house < x.count(0); house++) addHouse(x, house);
        for (int bride = 0; bride < x.count(1); bride++) addBride(x, bride);
        for (int year = 0; year < 24; year++) add(x.draught(year));
        add(x.dog(0));
        add(x.dog(1));
        add(x.lowest());
        add(x.left(0));
        add(x.left(1));
        add(x.spare(-1));
        add(x.spare(0));
        add(x.never());
        add(x.ages(7, 6, 0));
        add(x.ages(7, 6, 1));
        check.due("digest()", x.digest(), h);
    }

    private static void digestChangesNothing() {
        BrideDoors x = village();
        long once = x.digest();
        check.due("digest() again", x.digest(), once);
        x.lose(0);
        check.due("findings are not in it", x.digest(), once);
        x.event(1, 1, 1);
        check.holds("an event is in it", x.digest() != once);
        x.back();
        check.due("what was told undone", x.digest(), once);
        x.forget();
        check.holds("what was seen is in it", x.digest() != once);
    }
}
