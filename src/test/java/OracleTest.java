import java.util.Random;

/** Runs of calls drawn by a fixed seed, asked of the class and of the document written down a second time. */
public final class OracleTest {
    private static final int RUNS = 250, CALLS = 512;
    private final Check check = new Check();
    private Random random;
    private BrideDoors x;
    private Oracle o;
    private int run;

    public static void main(String[] args) {
        OracleTest test = new OracleTest();
        for (int run = 0; run < RUNS; run++) {
            test.live(run);
        }
        test.check.finish();
    }

    private void live(int number) {
        run = number;
        random = new Random(number);
        x = new BrideDoors();
        o = new Oracle();
        int calls = tell();
        while (calls < CALLS - 1) {
            call();
            calls++;
        }
        due("digest()", x.digest(), o.digest());
    }

    /** Most runs begin with whole texts and some events, so that there is something to ask about. */
    private int tell() {
        int calls = 0;
        StringBuilder houses = new StringBuilder();
        for (int i = random.nextInt(7); i > 0; i--) {
            houses.append("swt".charAt(random.nextInt(3))).append((char) ('a' + random.nextInt(20)));
            if (i > 1) houses.append(';');
        }
        StringBuilder brides = new StringBuilder();
        for (int i = random.nextInt(9); i > 0; i--) {
            int mother = random.nextBoolean() ? 8 : random.nextInt(9);
            brides.append(random.nextInt(1 + Math.max(2, houses.length() / 3)) % 6).append((char) ('a' + random.nextInt(24)))
                .append(mother).append((char) ('a' + random.nextInt(20)));
            if (i > 1) brides.append(';');
        }
        for (int i = 0; i < houses.length(); i++, calls++) typeBoth(0, houses.charAt(i));
        for (int i = 0; i < brides.length(); i++, calls++) typeBoth(1, brides.charAt(i));
        for (int i = random.nextInt(9); i > 0; i--, calls++) tellEvent();
        return calls;
    }

    private void typeBoth(int text, int sign) {
        due("type(" + text + ", " + sign + ")", x.type(text, sign), o.type(text, sign));
    }

    private void tellEvent() {
        int kind = number(3), year = number(24), house = number(6);
        due("event(" + kind + ", " + year + ", " + house + ")", x.event(kind, year, house), o.event(kind, year, house));
    }

    private void due(String call, long got, long want) {
        check.due("run " + run + ": " + call, got, want);
    }

    /** Mostly 0 to bound - 1; now and then just outside, or far outside. */
    private int number(int bound) {
        int die = random.nextInt(40);
        if (die == 0) return -1 - random.nextInt(2);
        if (die == 1) return bound + random.nextInt(2);
        if (die == 2) return random.nextInt();
        return random.nextInt(bound);
    }

    private int sign() {
        String signs = "swtabjtx0258;;;";
        return random.nextInt(6) == 0 ? number(256) : signs.charAt(random.nextInt(signs.length()));
    }

    private void call() {
        switch (random.nextInt(6)) {
            case 0 -> callTold();
            case 1 -> callYears();
            case 2 -> callPlans();
            case 3 -> callSeen();
            default -> callSheets();
        }
    }

    private void callTold() {
        int a = number(2), b = sign(), w = number(4), s = number(4);
        switch (random.nextInt(12)) {
            case 0 -> due("type(" + a + ", " + b + ")", x.type(a, b), o.type(a, b));
            case 1, 2 -> due("undo(" + a + ")", x.undo(a), o.undo(a));
            case 3 -> {
                if (random.nextInt(8) == 0) due("wipe(" + a + ")", x.wipe(a), o.wipe(a));
                else refill();
            }
            case 4 -> due("fault(" + a + ")", x.fault(a), o.fault(a));
            case 5 -> due("back()", x.back(), o.back());
            case 6, 7 -> tellEvent();
            case 8 -> due("read(" + s + ")", x.read(s), o.read(s));
            case 9 -> {
                int h = number(6);
                due("house(" + h + ", " + w + ")", x.house(h, w), o.house(h, w));
            }
            default -> {
                int bride = number(8);
                due("bride(" + bride + ", " + w + ")", x.bride(bride, w), o.bride(bride, w));
            }
        }
    }

    /** Undoes the signs that keep a text from being well, so that a fault does not last for a whole run. */
    private void refill() {
        for (int text = 0; text <= 1; text++) {
            for (int i = 0; i < 5 && o.fault(text) != -1; i++) {
                due("undo(" + text + ")", x.undo(text), o.undo(text));
            }
        }
    }

    private void callYears() {
        int y = number(24), h = number(6), b = number(8), w = number(5), w2 = number(2);
        switch (random.nextInt(7)) {
            case 0 -> due("at(" + y + ", " + h + ", " + w + ")", x.at(y, h, w), o.at(y, h, w));
            case 1 -> due("door(" + y + ", " + b + ", " + w + ")", x.door(y, b, w), o.door(y, b, w));
            case 2 -> due("draught(" + y + ")", x.draught(y), o.draught(y));
            case 3 -> due("dog(" + w2 + ")", x.dog(w2), o.dog(w2));
            case 4 -> due("kin(" + b + ")", x.kin(b), o.kin(b));
            case 5 -> due("lowest()", x.lowest(), o.lowest());
            default -> due("left(" + w2 + ")", x.left(w2), o.left(w2));
        }
    }

    private void callPlans() {
        int b = number(8), w = number(2), i = number(3) - 1;
        switch (random.nextInt(4)) {
            case 0 -> due("wed(" + b + ", " + w + ")", x.wed(b, w), o.wed(b, w));
            case 1 -> due("when(" + b + ", " + w + ")", x.when(b, w), o.when(b, w));
            case 2 -> due("from(" + b + ", " + w + ")", x.from(b, w), o.from(b, w));
            default -> due("spare(" + i + ")", x.spare(i), o.spare(i));
        }
    }

    private void callSeen() {
        int y = number(24), h = number(6), w = number(2), c = number(17), n = number(9), seed = random.nextInt();
        switch (random.nextInt(8)) {
            case 0 -> {
                // half of what is seen is as it is, so that not everything is ruled out
                int gap = random.nextBoolean() ? number(21) : Math.max(0, o.at(y, h, 4));
                due("seen(" + y + ", " + h + ", " + gap + ")", x.seen(y, h, gap), o.seen(y, h, gap));
            }
            case 1 -> due("forget()", x.forget(), o.forget());
            case 2 -> due("never()", x.never(), o.never());
            case 3 -> due("was(" + h + ", " + w + ")", x.was(h, w), o.was(h, w));
            case 4 -> due("ask(" + h + ")", x.ask(h), o.ask(h));
            case 5 -> due("chance(" + c + ", " + h + ", " + w + ")", x.chance(c, h, w), o.chance(c, h, w));
            case 6 -> due("ages(" + seed + ", " + n + ", " + w + ")", x.ages(seed, n, w), o.ages(seed, n, w));
            default -> due("never()", x.never(), o.never());
        }
    }

    private void callSheets() {
        int s = number(4), t = number(4), f = number(3), i = number(12), j = number(12), n = number(12), h = number(6);
        int v = random.nextBoolean() ? random.nextInt(6) : random.nextInt();
        int many = random.nextInt(4) == 0 ? number(61) : number(30);
        switch (random.nextInt(10)) {
            case 0, 1 -> due("sheet(" + s + ", " + f + ", " + many + ")", x.sheet(s, f, many), o.sheet(s, f, many));
            case 2 -> {
                if (random.nextInt(3) == 0) due("lose(" + s + ")", x.lose(s), o.lose(s));
            }
            case 3, 4 -> due("lay(" + s + ", " + f + ", " + i + ", " + v + ")", x.lay(s, f, i, v), o.lay(s, f, i, v));
            case 5, 6 -> due("get(" + s + ", " + f + ", " + i + ")", x.get(s, f, i), o.get(s, f, i));
            case 7 -> due("copy(" + s + ", " + i + ", " + t + ", " + j + ", " + n + ")", x.copy(s, i, t, j, n), o.copy(s, i, t, j, n));
            case 8 -> due("write(" + h + ", " + s + ")", x.write(h, s), o.write(h, s));
            default -> {
                int what = number(9);
                due("count(" + what + ")", x.count(what), o.count(what));
            }
        }
    }
}
