/** Promises 11 to 17: at, door, draught, dog, kin, lowest, left. */
public final class YearsTest {
    private static final int NONE = -1, BAD = -2;
    private static final Check check = new Check();

    public static void main(String[] args) {
        doorsAreHung();
        doorsAreTaken();
        likeDoors();
        eventsInTheirOrder();
        turfAndWood();
        mothers();
        dog();
        kin();
        lowest();
        left();
        refusals();
        check.finish();
    }

    private static void house(BrideDoors x, int year, int house, int... want) {
        for (int what = 0; what < want.length; what++) {
            check.due("at(" + year + ", " + house + ", " + what + ")", x.at(year, house, what), want[what]);
        }
    }

    private static void door(BrideDoors x, int year, int bride, int... want) {
        for (int what = 0; what < want.length; what++) {
            check.due("door(" + year + ", " + bride + ", " + what + ")", x.door(year, bride, what), want[what]);
        }
    }

    private static BrideDoors village() {
        return Check.told("sh;wg;tc", "0a8j;1b8k;2c0a;0c2a;1c5a;2c8b;3c8b;1d7a");
    }

    private static void doorsAreHung() {
        BrideDoors x = village();
        house(x, 0, 0, 8, 1, 8, 8, 0);
        house(x, 0, 1, 7, 0, 0, 0, 7);
        house(x, 1, 1, 9, 1, 9, 9, 0);
        house(x, 1, 2, 3, 0, 0, 0, 3);
        house(x, 2, 2, 6, 2, 6, 2, 0);
        house(x, 2, 0, 8, 2, 8, 4, 0);
        door(x, 0, 0, 1, 8, 2);
        door(x, 0, 1, 0, 0, 0);
        door(x, 1, 1, 1, 9, 2);
        door(x, 2, 2, 1, 6, 0);
        door(x, 2, 3, 1, 4, 0);
        door(x, 2, 4, 4, 0, 0);
        door(x, 2, 5, 1, 2, 0);
        door(x, 23, 6, 0, 0, 0);
        door(x, 2, 7, 0, 0, 0);
        door(x, 3, 7, 4, 0, 0);
        int[] draughts = {10, 3, 0, 0};
        for (int year = 0; year < draughts.length; year++) {
            check.due("draught(" + year + ")", x.draught(year), draughts[year]);
        }
    }

    private static void doorsAreTaken() {
        BrideDoors x = village();
        x.event(0, 6, 2);
        x.event(2, 5, 2);
        x.event(0, 4, 0);
        x.event(1, 3, 0);
        house(x, 3, 0, 8, 2, 7, 3, 1);
        door(x, 3, 0, 1, 7, 3);
        door(x, 3, 3, 1, 3, 1);
        house(x, 4, 0, 8, 1, 3, 3, 5);
        door(x, 4, 0, 2, 7, 3);
        door(x, 23, 0, 2, 7, 3);
        house(x, 5, 2, 6, 1, 6, 6, 0);
        door(x, 4, 5, 1, 2, 0);
        door(x, 5, 5, 3, 2, 0);
        house(x, 6, 2, 6, 0, 0, 0, 6);
        check.due("draught(23)", x.draught(23), 11);
        check.due("dog(0)", x.dog(0), 4);
        check.due("dog(1)", x.dog(1), 0);
        check.due("lowest()", x.lowest(), 3);
        check.due("left(0)", x.left(0), 4);
        check.due("left(1)", x.left(1), 32);
        check.due("burnt doors", x.count(6), 2);
    }

    private static void likeDoors() {
        BrideDoors x = Check.told("se", "0a8c;0a8c;0a8c");
        x.event(0, 1, 0);
        x.event(2, 1, 0);
        door(x, 1, 0, 2, 3, 0);
        door(x, 1, 1, 3, 3, 0);
        door(x, 1, 2, 1, 3, 0);
        BrideDoors unlike = Check.told("se", "0a8c;0a8e;0a8b;0a8b;0a8e");
        unlike.event(2, 1, 0);
        unlike.event(0, 1, 0);
        door(unlike, 1, 2, 3, 2, 0);
        door(unlike, 1, 1, 2, 5, 0);
        house(unlike, 1, 0, 5, 3, 5, 2, 0);
        BrideDoors low = Check.told("sb", "0a8a;0a8b");
        low.event(1, 1, 0);
        low.event(1, 1, 0);
        door(low, 1, 0, 1, 1, 0);
        door(low, 1, 1, 1, 1, 1);
        BrideDoors none = Check.told("se", "0b8c");
        none.event(0, 0, 0);
        none.event(1, 0, 0);
        none.event(2, 0, 0);
        none.event(0, 2, 1);
        none.event(2, 2, 5);
        door(none, 23, 0, 1, 3, 0);
    }

    private static void eventsInTheirOrder() {
        BrideDoors x = Check.told("se", "0b8e;0a8d");
        x.event(0, 1, 0);
        x.event(1, 1, 0);
        door(x, 1, 0, 1, 5, 0);
        door(x, 1, 1, 2, 4, 0);
        BrideDoors y = Check.told("se", "0b8e;0a8d");
        y.event(1, 1, 0);
        y.event(0, 1, 0);
        door(y, 1, 1, 2, 3, 1);
        BrideDoors ahead = Check.told("se", "0a8e");
        ahead.event(1, 3, 0);
        ahead.event(1, 2, 0);
        ahead.event(0, 0, 0);
        door(ahead, 1, 0, 1, 5, 0);
        door(ahead, 2, 0, 1, 4, 1);
        door(ahead, 3, 0, 1, 3, 2);
        BrideDoors last = Check.told("se", "0w8e;0x8a");
        last.event(0, 23, 0);
        door(last, 22, 0, 1, 5, 0);
        door(last, 23, 0, 2, 5, 0);
        door(last, 22, 1, 0, 0, 0);
        door(last, 23, 1, 1, 1, 0);
    }

    private static void turfAndWood() {
        BrideDoors wood = Check.told("wg", "0a8h;0b8k;0c8i;0d8c");
        house(wood, 0, 0, 8, 1, 8, 8, 0);
        house(wood, 1, 0, 9, 2, 9, 8, 0);
        door(wood, 1, 0, 1, 8, 0);
        door(wood, 1, 1, 1, 9, 2);
        door(wood, 2, 2, 1, 9, 0);
        house(wood, 3, 0, 9, 4, 9, 3, 0);
        BrideDoors turf = Check.told("ta", "0a8t;0b8c");
        house(turf, 0, 0, 20, 1, 20, 20, 0);
        door(turf, 0, 0, 1, 20, 0);
        house(turf, 1, 0, 20, 2, 20, 3, 0);
        turf.event(0, 1, 0);
        house(turf, 1, 0, 20, 1, 3, 3, 17);
        BrideDoors stone = Check.told("sa", "0a8t");
        house(stone, 0, 0, 1, 1, 1, 1, 0);
        door(stone, 0, 0, 1, 1, 19);
        BrideDoors high = Check.told("wt", "0a8t");
        house(high, 0, 0, 20, 1, 20, 20, 0);
    }

    private static void mothers() {
        BrideDoors low = Check.told("sj", "0a8c;0b0t;0c1t;0d8d;0e3t");
        door(low, 23, 1, 1, 1, 0);
        door(low, 23, 2, 1, 1, 0);
        door(low, 23, 4, 1, 2, 0);
        BrideDoors x = Check.told("sj;sd", "0a8i;1b0t;1c0t;1d0t;1e0t");
        x.event(1, 2, 0);
        x.event(2, 4, 0);
        door(x, 1, 1, 1, 4, 3);
        door(x, 2, 2, 1, 4, 2);
        door(x, 3, 3, 1, 4, 2);
        door(x, 4, 4, 4, 0, 0);
        BrideDoors nowhere = Check.told("sj", "5a8i;0b0t;0c1t;0d6t;0e4t;0f7t");
        door(nowhere, 23, 0, 0, 0, 0);
        for (int b = 1; b <= 5; b++) {
            door(nowhere, 23, b, 4, 0, 0);
        }
        BrideDoors gone = Check.told("sj", "0c1a;0a8i");
        door(gone, 2, 0, 1, 7, 0);
        for (int i = 0; i < 5; i++) {
            gone.undo(1);
        }
        door(gone, 2, 0, 4, 0, 0);
        BrideDoors sameYear = Check.told("sj", "0a1t;0a8i;0a1t");
        door(sameYear, 0, 0, 4, 0, 0);
        door(sameYear, 0, 1, 1, 9, 0);
        door(sameYear, 0, 2, 1, 7, 0);
    }

    private static void dog() {
        check.due("no houses: dog(0)", new BrideDoors().dog(0), NONE);
        check.due("an open house has no dog", Check.told("st", "").dog(0), NONE);
        check.due("a gap of 4 is too narrow", Check.told("st", "0c8p").dog(0), NONE);
        BrideDoors five = Check.told("st;st;st", "2d8o;1d8o;0e8a");
        check.due("a gap of 5: dog(0)", five.dog(0), 3);
        check.due("the least such house: dog(1)", five.dog(1), 1);
        BrideDoors burnt = Check.told("st", "0a8t;0a8o");
        burnt.event(0, 4, 0);
        check.due("behind hard times: dog(0)", burnt.dog(0), 4);
        BrideDoors later = Check.told("sf", "0x8a");
        check.due("in the last year: dog(0)", later.dog(0), 23);
        check.due("in the last year: dog(1)", later.dog(1), 0);
    }

    private static void kin() {
        BrideDoors x = Check.told("", "0a8a;0a0a;0a1a;0a7a;0a5a;0a4a;0a6a");
        int[] want = {0, 1, 2, 0, 8, 8, 8};
        for (int b = 0; b < want.length; b++) {
            check.due("kin(" + b + ")", x.kin(b), want[b]);
        }
        check.due("kin(7)", x.kin(7), BAD);
        check.due("kin(-1)", x.kin(-1), BAD);
        BrideDoors row = Check.told("", "0a8a;0a0a;0a1a;0a2a;0a3a;0a4a;0a5a;0a6a");
        check.due("kin(7) of a row of eight", row.kin(7), 7);
    }

    private static void lowest() {
        check.due("no brides: lowest()", Check.told("sa", "").lowest(), NONE);
        check.due("none hangs: lowest()", Check.told("sa", "1a8a;0a1a").lowest(), NONE);
        check.due("of like ones the least", Check.told("st;st", "0a8c;1a8b;0x8b").lowest(), 1);
        BrideDoors x = Check.told("st;st", "0a8c;1a8b");
        x.event(2, 23, 1);
        check.due("what is on the moor does not hang", x.lowest(), 0);
    }

    private static void left() {
        BrideDoors x = Check.told("sa;sa;sa;sa;sa;sa", "4x8a;1a8a;2a8b;2a8a;3a4a");
        x.event(2, 5, 1);
        x.event(2, 6, 2);
        x.event(0, 23, 4);
        check.due("left(0)", x.left(0), 1 | 2 | 8 | 32);
        check.due("left(1)", x.left(1), 2 | 4);
        check.due("no houses: left(0)", new BrideDoors().left(0), 0);
        check.due("no brides: left(1)", new BrideDoors().left(1), 0);
    }

    private static void refusals() {
        BrideDoors x = Check.told("sa", "0a8a");
        int[][] at = {{-1, 0, 0}, {24, 0, 0}, {0, -1, 0}, {0, 1, 0}, {0, 0, -1}, {0, 0, 5}};
        for (int[] a : at) {
            check.due("at(" + a[0] + ", " + a[1] + ", " + a[2] + ")", x.at(a[0], a[1], a[2]), BAD);
        }
        int[][] door = {{-1, 0, 0}, {24, 0, 0}, {0, -1, 0}, {0, 1, 0}, {0, 0, -1}, {0, 0, 3}};
        for (int[] a : door) {
            check.due("door(" + a[0] + ", " + a[1] + ", " + a[2] + ")", x.door(a[0], a[1], a[2]), BAD);
        }
        for (int wrong : new int[] {-1, 24}) {
            check.due("draught(" + wrong + ")", x.draught(wrong), BAD);
        }
        for (int wrong : new int[] {-1, 2}) {
            check.due("dog(" + wrong + ")", x.dog(wrong), BAD);
            check.due("left(" + wrong + ")", x.left(wrong), BAD);
        }
    }
}
