import java.util.Arrays;

/**
 * Brides, the doors they bring and the houses these hang in, year by year.
 * Every answer is worked out anew from what is told (two texts, events, what was seen);
 * a question "what if" puts another number into a told table, lets the years pass, and puts
 * the told number back.
 */
public final class BrideDoors {
    public static final int NONE = -1, BAD = -2, NOT = -3, FULL = -4;

    private static final int MOST_HOUSES = 6, MOST_BRIDES = 8, MOST_EVENTS = 8, MOST_SEEN = 8;
    private static final int HOUSE_SIGNS = 17, BRIDE_SIGNS = 39, SIGNS = 256;
    private static final int YEARS = 24, LAST_YEAR = 23;
    private static final int HIGHEST = 20, GAPS = 21, DOG_GAP = 5;

    /** Columns of the table of houses. */
    private static final int SORT = 0, OPENS = 1;
    /** Columns of the table of brides. */
    private static final int HOUSE = 0, YEAR = 1, MOTHER = 2, HIGH = 3;
    /** Columns of the tables of events. */
    private static final int EVENT_KIND = 0, EVENT_YEAR = 1, EVENT_HOUSE = 2;
    /** Columns of the table of what was seen. */
    private static final int SEEN_YEAR = 0, SEEN_HOUSE = 1, SEEN_GAP = 2;

    private static final String SORT_SIGNS = "swt";
    private static final int SORTS = 3, WOOD = 1, TURF = 2, WOOD_GIVES = 2;
    private static final int MOTHERS = 9, NO_MOTHER = 8, MOST_KIN = 8, LOST_TO_DAUGHTER = 2;
    private static final int KINDS = 3, HARD_TIMES = 0, CARPENTER = 1;
    private static final int NOT_COME = 0, HANGS = 1, BURNT = 2, ON_MOOR = 3, BROUGHT_NONE = 4;

    /** A plan is one number, the draught above and the choice below, so that the least is the best. */
    private static final int PLAN_BASE = 32;
    private static final int SIXTEENTHS = 16, SIXTEEN_BITS = 4;
    private static final int UNKNOWN = -1;

    private static final int SHEETS = 4, FORMS = 3, MOST_ITEMS = 60;
    private static final int NULL = 1, INDEX = 2, CAST = 3, STORE = 4, SIZE = 5, FINDING_BASE = -10;
    private static final int LEAST_INT = -2147483648;
    private static final long LEAST_LONG = -9223372036854775808L;

    private static final int[] HOUSE_YEARS = {0, 7, 15, 23};
    private static final int[] DOOR_YEARS = {7, 15, 23};

    private final Table houses = new Table(2, MOST_HOUSES);
    private final Table brides = new Table(4, MOST_BRIDES);
    private final Table events = new Table(3, MOST_EVENTS);
    private final Table drawn = new Table(3, MOST_EVENTS);
    private final Table sights = new Table(3, MOST_SEEN);
    private final Text houseText = new HouseText(houses);
    private final Text brideText = new BrideText(brides);
    private final World world = new World(houses, brides, events);
    private final int[] openMemo = new int[1 << MOST_EVENTS];
    private boolean memoStale = true;
    private final int[] gapTally = new int[YEARS * GAPS];
    private final Sheet[] sheets = new Sheet[SHEETS];
    private int latestFinding = 0;

    public BrideDoors() {
        for (int s = 0; s < SHEETS; s++) {
            sheets[s] = new Sheet();
        }
    }

    // ---- houses, brides, events

    public int type(int text, int b) {
        Text t = textOf(text);
        if (t == null || !isBelow(b, SIGNS)) {
            return BAD;
        }
        if (t.isFull()) {
            return FULL;
        }
        t.append(b);
        memoStale = true;
        return t.length;
    }

    public int wipe(int text) {
        Text t = textOf(text);
        if (t == null) {
            return BAD;
        }
        int had = t.length;
        t.cutTo(0);
        memoStale = true;
        return had;
    }

    public int undo(int text) {
        Text t = textOf(text);
        if (t == null) {
            return BAD;
        }
        if (t.length == 0) {
            return NOT;
        }
        t.cutTo(t.length - 1);
        memoStale = true;
        return t.length;
    }

    public int fault(int text) {
        Text t = textOf(text);
        return t == null ? BAD : t.fault;
    }

    public int house(int house, int what) {
        return houses.has(what, house) ? houses.cells[what][house] : BAD;
    }

    public int bride(int bride, int what) {
        return brides.has(what, bride) ? brides.cells[what][bride] : BAD;
    }

    public int event(int kind, int year, int house) {
        if (!mayBe(kind, year, house)) {
            return BAD;
        }
        if (events.isFull()) {
            return FULL;
        }
        events.add(kind, year, house);
        memoStale = true;
        return events.size;
    }

    public int back() {
        if (events.size == 0) {
            return NOT;
        }
        events.size--;
        memoStale = true;
        return events.size;
    }

    public int read(int s) {
        Sheet sheet = sheetOf(s);
        if (sheet == null) {
            return BAD;
        }
        if (sheet.lost) {
            return finding(NULL);
        }
        int came = 0;
        for (int i = 0; i + 2 < sheet.size; i += 3) {
            int kind = sheet.items[i], year = sheet.items[i + 1], house = sheet.items[i + 2];
            if (events.isFull() || !mayBe(kind, year, house)) {
                break;
            }
            events.add(kind, year, house);
            came++;
        }
        memoStale = true;
        return came;
    }

    // ---- years

    public int at(int year, int house, int what) {
        if (!isBelow(year, YEARS) || !houses.hasRow(house) || !isBelow(what, 5)) {
            return BAD;
        }
        passTold(year);
        switch (what) {
            case 0: return world.opens[house];
            case 1: return world.doorsIn(house);
            case 2: return world.heightOf(world.highestIn(house));
            case 3: return world.heightOf(world.lowestIn(house));
            default: return world.gapOf(house);
        }
    }

    public int door(int year, int bride, int what) {
        if (!isBelow(year, YEARS) || !brides.hasRow(bride) || !isBelow(what, 3)) {
            return BAD;
        }
        passTold(year);
        switch (what) {
            case 0: return world.state[bride];
            case 1: return world.height[bride];
            default: return world.sawn[bride];
        }
    }

    public int draught(int year) {
        if (!isBelow(year, YEARS)) {
            return BAD;
        }
        passTold(year);
        return world.allGaps();
    }

    public int dog(int what) {
        if (!isBelow(what, 2)) {
            return BAD;
        }
        world.begin(events, 0);
        for (int year = 0; year < YEARS; year++) {
            world.pass(year, year);
            for (int house = 0; house < houses.size; house++) {
                if (world.doorsIn(house) > 0 && world.gapOf(house) >= DOG_GAP) {
                    return what == 0 ? year : house;
                }
            }
        }
        return NONE;
    }

    public int kin(int bride) {
        if (!brides.hasRow(bride)) {
            return BAD;
        }
        int mother = brides.cells[MOTHER][bride];
        int found = 0;
        while (found < MOST_KIN && brides.hasRow(mother)) {
            found++;
            mother = brides.cells[MOTHER][mother];
        }
        return found;
    }

    public int lowest() {
        passTold(LAST_YEAR);
        int found = NONE;
        for (int b = 0; b < brides.size; b++) {
            if (world.state[b] == HANGS && (found == NONE || world.height[b] < world.height[found])) {
                found = b;
            }
        }
        return found;
    }

    public int left(int what) {
        if (!isBelow(what, 2)) {
            return BAD;
        }
        passTold(LAST_YEAR);
        return what == 0 ? world.openBits() : world.bitsOf(ON_MOOR);
    }

    // ---- plans

    public int wed(int bride, int what) {
        if (!brides.hasRow(bride) || !isBelow(what, 2)) {
            return BAD;
        }
        return partOf(bestPlan(bride, HOUSE, houses.size), what);
    }

    public int when(int bride, int what) {
        if (!brides.hasRow(bride) || !isBelow(what, 2)) {
            return BAD;
        }
        return partOf(bestPlan(bride, YEAR, YEARS), what);
    }

    public int from(int bride, int what) {
        if (!brides.hasRow(bride) || !isBelow(what, 2)) {
            return BAD;
        }
        return partOf(bestPlan(bride, MOTHER, MOTHERS), what);
    }

    public int spare(int i) {
        if (i < NONE || i > 1) {
            return BAD;
        }
        int spared = fewestSpared();
        if (spared == NONE) {
            return NONE;
        }
        return i == NONE ? Integer.bitCount(spared) : placeOfBit(spared, i);
    }

    /** The plan with the least draught when a bride's column is each of 0 to values - 1; NONE without any. */
    private int bestPlan(int bride, int column, int values) {
        int told = brides.cells[column][bride];
        int best = NONE;
        for (int value = 0; value < values; value++) {
            if (column == MOTHER && value == bride) {
                continue;
            }
            brides.cells[column][bride] = value;
            passTold(LAST_YEAR);
            int plan = world.allGaps() * PLAN_BASE + value;
            if (best == NONE || plan < best) {
                best = plan;
            }
        }
        brides.cells[column][bride] = told;
        return best;
    }

    private static int partOf(int plan, int what) {
        if (plan == NONE) {
            return NONE;
        }
        return what == 0 ? plan % PLAN_BASE : plan / PLAN_BASE;
    }

    /** The events that had better not be, as bits; NONE if even two are too few. */
    private int fewestSpared() {
        if (openWithout(0) == 0) {
            return 0;
        }
        for (int first = 0; first < events.size; first++) {
            if (openWithout(1 << first) == 0) {
                return 1 << first;
            }
        }
        for (int first = 0; first < events.size; first++) {
            for (int second = first + 1; second < events.size; second++) {
                int pair = 1 << first | 1 << second;
                if (openWithout(pair) == 0) {
                    return pair;
                }
            }
        }
        return NONE;
    }

    /** The place of the i-th bit that is set; NONE if so many are not. */
    private static int placeOfBit(int bits, int i) {
        int ahead = 0;
        for (int place = 0; place < MOST_EVENTS; place++) {
            if (isSet(bits, place)) {
                if (ahead == i) {
                    return place;
                }
                ahead++;
            }
        }
        return NONE;
    }

    // ---- seen, chance, ages

    public int seen(int year, int house, int gap) {
        if (!isBelow(year, YEARS) || !isBelow(house, MOST_HOUSES) || !isBelow(gap, GAPS)) {
            return BAD;
        }
        if (sights.isFull()) {
            return FULL;
        }
        sights.add(year, house, gap);
        return sights.size;
    }

    public int forget() {
        int had = sights.size;
        sights.size = 0;
        return had;
    }

    public int never() {
        int bits = 0;
        for (int e = 0; e < events.size; e++) {
            if (comesOut(1 << e)) {
                bits |= 1 << e;
            }
        }
        return bits;
    }

    public int was(int house, int what) {
        if (!houses.hasRow(house) || !isBelow(what, 2)) {
            return BAD;
        }
        return what == 0 ? fitting(house, OPENS, 1, HIGHEST) : fitting(house, SORT, 0, SORTS - 1);
    }

    public int ask(int house) {
        if (!houses.hasRow(house)) {
            return BAD;
        }
        tallyGaps(house, fitting(house, OPENS, 1, HIGHEST));
        int best = 0;
        for (int year = 1; year < YEARS; year++) {
            if (greatestTally(year) < greatestTally(best)) {
                best = year;
            }
        }
        return best;
    }

    public long chance(int c, int house, int what) {
        if (!isBelow(c, SIXTEENTHS + 1) || !houses.hasRow(house) || !isBelow(what, 2)) {
            return LEAST_LONG - BAD;
        }
        long above = 0;
        for (int missing = 0; missing < 1 << events.size; missing++) {
            if (isSet(openWithout(missing), house)) {
                above += weightOf(missing, c);
            }
        }
        int powers = SIXTEEN_BITS * events.size;
        // below is a power of two, so halving alone brings the fraction to lowest terms
        while (powers > 0 && above % 2 == 0) {
            above /= 2;
            powers--;
        }
        long below = 1L << powers;
        return what == 0 ? above : below;
    }

    public int ages(int seed, int n, int what) {
        if (!isBelow(n, MOST_EVENTS + 1) || !isBelow(what, 2)) {
            return BAD;
        }
        drawEvents(seed, n);
        world.begin(drawn, 0);
        world.pass(0, LAST_YEAR);
        return what == 0 ? world.allGaps() : Integer.bitCount(world.bitsOf(ON_MOOR));
    }

    /** Whether all that was seen comes out so, if some events (as bits) had not been. */
    private boolean comesOut(int missing) {
        world.begin(events, missing);
        for (int year = 0; year < YEARS; year++) {
            world.pass(year, year);
            if (!agreesWithSeen(year)) {
                return false;
            }
        }
        return true;
    }

    private boolean agreesWithSeen(int year) {
        for (int i = 0; i < sights.size; i++) {
            if (sights.cells[SEEN_YEAR][i] == year) {
                int house = sights.cells[SEEN_HOUSE][i];
                if (!houses.hasRow(house) || world.gapOf(house) != sights.cells[SEEN_GAP][i]) {
                    return false;
                }
            }
        }
        return true;
    }

    /** The values of a house's column by which all that was seen comes out so, as bits. */
    private int fitting(int house, int column, int first, int last) {
        int told = houses.cells[column][house];
        int bits = 0;
        for (int value = first; value <= last; value++) {
            houses.cells[column][house] = value;
            if (comesOut(0)) {
                bits |= 1 << value;
            }
        }
        houses.cells[column][house] = told;
        return bits;
    }

    /** Counts by year and gap how many of the heights (as bits) give a house that gap. */
    private void tallyGaps(int house, int heights) {
        Arrays.fill(gapTally, 0);
        int told = houses.cells[OPENS][house];
        for (int height = 1; height <= HIGHEST; height++) {
            if (!isSet(heights, height)) {
                continue;
            }
            houses.cells[OPENS][house] = height;
            world.begin(events, 0);
            for (int year = 0; year < YEARS; year++) {
                world.pass(year, year);
                int gap = world.gapOf(house);
                if (isBelow(gap, GAPS)) {
                    gapTally[year * GAPS + gap]++;
                }
            }
        }
        houses.cells[OPENS][house] = told;
    }

    private int greatestTally(int year) {
        int greatest = 0;
        for (int gap = 0; gap < GAPS; gap++) {
            greatest = Math.max(greatest, gapTally[year * GAPS + gap]);
        }
        return greatest;
    }

    /** How many of 16 to the number of events fall on just these events missing. */
    private long weightOf(int missing, int c) {
        long weight = 1;
        for (int e = 0; e < events.size; e++) {
            weight *= isSet(missing, e) ? SIXTEENTHS - c : c;
        }
        return weight;
    }

    private void drawEvents(int seed, int n) {
        drawn.size = 0;
        int lot = seed;
        for (int i = 0; i < n; i++) {
            lot = nextSeed(lot);
            int kind = (lot >>> 16) % KINDS;
            lot = nextSeed(lot);
            int year = (lot >>> 16) % YEARS;
            lot = nextSeed(lot);
            drawn.add(kind, year, (lot >>> 16) % MOST_HOUSES);
        }
    }

    private static int nextSeed(int seed) {
        return 1103515245 * seed + 12345;
    }

    // ---- sheets

    public int sheet(int s, int form, int n) {
        Sheet sheet = sheetOf(s);
        if (sheet == null || !isBelow(form, FORMS) || n > MOST_ITEMS) {
            return BAD;
        }
        if (n < 0) {
            return finding(SIZE);
        }
        sheet.renew(form, n);
        return n;
    }

    public int lose(int s) {
        Sheet sheet = sheetOf(s);
        if (sheet == null) {
            return BAD;
        }
        if (sheet.lost) {
            return finding(NULL);
        }
        sheet.lost = true;
        return sheet.size;
    }

    public int lay(int s, int form, int i, int v) {
        Sheet sheet = sheetOf(s);
        if (sheet == null || !isBelow(form, FORMS)) {
            return BAD;
        }
        int flaw = sheet.flawOf(form, i);
        if (flaw != 0) {
            return finding(flaw);
        }
        sheet.put(i, v);
        return 1;
    }

    public int get(int s, int form, int i) {
        Sheet sheet = sheetOf(s);
        if (sheet == null || !isBelow(form, FORMS)) {
            return LEAST_INT;
        }
        int flaw = sheet.flawOf(form, i);
        if (flaw != 0) {
            finding(flaw);
            return LEAST_INT;
        }
        return sheet.items[i];
    }

    public int copy(int s, int i, int t, int j, int n) {
        Sheet source = sheetOf(s), target = sheetOf(t);
        if (source == null || target == null) {
            return BAD;
        }
        if (source.lost || target.lost) {
            return finding(NULL);
        }
        if (source.form != target.form) {
            return finding(STORE);
        }
        if (!source.hasRange(i, n) || !target.hasRange(j, n)) {
            return finding(INDEX);
        }
        System.arraycopy(source.items, i, target.items, j, n);
        return 1;
    }

    public int write(int house, int s) {
        Sheet sheet = sheetOf(s);
        if (!houses.hasRow(house) || sheet == null) {
            return BAD;
        }
        if (sheet.lost) {
            return finding(NULL);
        }
        int written = Math.min(sheet.size, YEARS);
        world.begin(events, 0);
        for (int year = 0; year < written; year++) {
            world.pass(year, year);
            sheet.put(year, world.gapOf(house));
        }
        return written;
    }

    public int count(int what) {
        switch (what) {
            case 0: return houses.size;
            case 1: return brides.size;
            case 2: return houseText.length;
            case 3: return brideText.length;
            case 4: return events.size;
            case 5: return draught(LAST_YEAR);
            case 6:
                passTold(LAST_YEAR);
                return Integer.bitCount(world.bitsOf(BURNT));
            case 7: return sights.size;
            case 8: return latestFinding;
            default: return BAD;
        }
    }

    public long digest() {
        long h = 17;
        for (int what = 0; what <= 7; what++) {
            h = mix(h, count(what));
        }
        h = mix(mix(h, fault(0)), fault(1));
        for (int house = 0; house < houses.size; house++) {
            h = mixHouse(h, house);
        }
        for (int bride = 0; bride < brides.size; bride++) {
            h = mixBride(h, bride);
        }
        for (int year = 0; year < YEARS; year++) {
            h = mix(h, draught(year));
        }
        h = mix(mix(h, dog(0)), dog(1));
        h = mix(h, lowest());
        h = mix(mix(h, left(0)), left(1));
        h = mix(mix(h, spare(NONE)), spare(0));
        h = mix(h, never());
        return mix(mix(h, ages(7, 6, 0)), ages(7, 6, 1));
    }

    private long mixHouse(long before, int house) {
        long h = mix(mix(before, house(house, 0)), house(house, 1));
        for (int i = 0; i < HOUSE_YEARS.length; i++) {
            for (int what = 0; what < 5; what++) {
                h = mix(h, at(HOUSE_YEARS[i], house, what));
            }
        }
        h = mix(mix(h, was(house, 0)), was(house, 1));
        h = mix(h, ask(house));
        return mix(mix(h, chance(5, house, 0)), chance(5, house, 1));
    }

    private long mixBride(long before, int bride) {
        long h = before;
        for (int what = 0; what < 4; what++) {
            h = mix(h, bride(bride, what));
        }
        for (int i = 0; i < DOOR_YEARS.length; i++) {
            for (int what = 0; what < 3; what++) {
                h = mix(h, door(DOOR_YEARS[i], bride, what));
            }
        }
        h = mix(h, kin(bride));
        h = mixPlan(h, bestPlan(bride, HOUSE, houses.size));
        h = mixPlan(h, bestPlan(bride, YEAR, YEARS));
        return mixPlan(h, bestPlan(bride, MOTHER, MOTHERS));
    }

    private static long mixPlan(long h, int plan) {
        return mix(mix(h, partOf(plan, 0)), partOf(plan, 1));
    }

    private static long mix(long h, long value) {
        return 31 * h + value;
    }

    // ---- what the calls share

    private static boolean isBelow(int number, int bound) {
        return number >= 0 && number < bound;
    }

    private static boolean isSet(int bits, int place) {
        return (bits >> place & 1) != 0;
    }

    /** The place of a sign among as many from the first on; NONE if it is not there. */
    private static int placeAmong(int sign, char first, int many) {
        return isBelow(sign - first, many) ? sign - first : NONE;
    }

    /** How high a letter tells, 1 to 20; NONE if it tells nothing. */
    private static int heightOfSign(int sign) {
        int place = placeAmong(sign, 'a', HIGHEST);
        return place == NONE ? NONE : place + 1;
    }

    private static boolean mayBe(int kind, int year, int house) {
        return isBelow(kind, KINDS) && isBelow(year, YEARS) && isBelow(house, MOST_HOUSES);
    }

    private Text textOf(int text) {
        if (text == 0) {
            return houseText;
        }
        return text == 1 ? brideText : null;
    }

    private Sheet sheetOf(int s) {
        return isBelow(s, SHEETS) ? sheets[s] : null;
    }

    private int finding(int number) {
        latestFinding = number;
        return FINDING_BASE - number;
    }

    private void passTold(int year) {
        world.begin(events, 0);
        world.pass(0, year);
    }

    /** The houses that are open at the end, as bits, if some events (as bits) had not been. */
    private int openWithout(int missing) {
        if (memoStale) {
            Arrays.fill(openMemo, UNKNOWN);
            memoStale = false;
        }
        if (!isBelow(missing, openMemo.length)) {
            return 0;
        }
        if (openMemo[missing] == UNKNOWN) {
            world.begin(events, missing);
            world.pass(0, LAST_YEAR);
            openMemo[missing] = world.openBits();
        }
        return openMemo[missing];
    }

    /** Rows of numbers, held by column and then by row. */
    private static final class Table {
        final int[][] cells;
        final int columns, most;
        int size = 0;

        Table(int columns, int most) {
            this.cells = new int[columns][most];
            this.columns = columns;
            this.most = most;
        }

        boolean isFull() {
            return size >= most;
        }

        boolean hasRow(int row) {
            return row >= 0 && row < size;
        }

        boolean has(int column, int row) {
            return isBelow(column, columns) && isBelow(row, size);
        }

        void add(int first, int second, int third) {
            if (columns == 3 && size < most) {
                cells[0][size] = first;
                cells[1][size] = second;
                cells[2][size] = third;
                size++;
            }
        }
    }

    /** A text, and the table of what it tells (empty while the text has a fault). */
    private abstract static class Text {
        private final int[] signs;
        private final Table told;
        int length = 0;
        int fault = NONE;

        Text(int limit, Table told) {
            this.signs = new int[limit];
            this.told = told;
        }

        /** What a sign tells in a column; NONE if it cannot stand there. */
        abstract int valueOf(int column, int sign);

        boolean isFull() {
            return length >= signs.length;
        }

        void append(int sign) {
            if (length < signs.length) {
                signs[length] = sign;
                length++;
                tellAnew();
            }
        }

        void cutTo(int shorter) {
            length = Math.max(0, Math.min(shorter, length));
            tellAnew();
        }

        private void tellAnew() {
            told.size = 0;
            int row = 0;
            int column = 0;
            for (int i = 0; i < length; i++) {
                boolean between = column == told.columns;
                int value = between ? placeAmong(signs[i], ';', 1) : valueOf(column, signs[i]);
                if (value == NONE || row >= told.most) {
                    fault = i;
                    return;
                }
                if (between) {
                    row++;
                    column = 0;
                } else {
                    told.cells[column][row] = value;
                    column++;
                }
            }
            boolean ended = length == 0 || column == told.columns;
            fault = ended ? NONE : length;
            told.size = ended && length > 0 ? row + 1 : 0;
        }
    }

    private static final class HouseText extends Text {
        HouseText(Table houses) {
            super(HOUSE_SIGNS, houses);
        }

        int valueOf(int column, int sign) {
            return column == SORT ? SORT_SIGNS.indexOf((char) sign) : heightOfSign(sign);
        }
    }

    private static final class BrideText extends Text {
        BrideText(Table brides) {
            super(BRIDE_SIGNS, brides);
        }

        int valueOf(int column, int sign) {
            switch (column) {
                case HOUSE: return placeAmong(sign, '0', MOST_HOUSES);
                case YEAR: return placeAmong(sign, 'a', YEARS);
                case MOTHER: return placeAmong(sign, '0', MOTHERS);
                default: return heightOfSign(sign);
            }
        }
    }

    /** The doors and houses as they stand while the years pass. */
    private static final class World {
        private final Table houses, brides;
        private Table events;
        private int missing = 0;
        private int busyYears = 0;
        final int[] opens = new int[MOST_HOUSES];
        final int[] state = new int[MOST_BRIDES];
        final int[] height = new int[MOST_BRIDES];
        final int[] sawn = new int[MOST_BRIDES];
        /** In which house a door hangs; NONE if in none. */
        private final int[] hung = new int[MOST_BRIDES];

        World(Table houses, Table brides, Table events) {
            this.houses = houses;
            this.brides = brides;
            this.events = events;
        }

        /** Ahead of all years, with these events but those missing (as bits). */
        void begin(Table events, int missing) {
            this.events = events;
            this.missing = missing;
            busyYears = 0;
            for (int house = 0; house < houses.size; house++) {
                opens[house] = houses.cells[OPENS][house];
            }
            for (int b = 0; b < brides.size; b++) {
                busyYears |= 1 << brides.cells[YEAR][b];
                state[b] = NOT_COME;
                height[b] = 0;
                sawn[b] = 0;
                hung[b] = NONE;
            }
            for (int e = 0; e < events.size; e++) {
                busyYears |= 1 << events.cells[EVENT_YEAR][e];
            }
        }

        void pass(int firstYear, int lastYear) {
            for (int year = firstYear; year <= lastYear; year++) {
                if (!isSet(busyYears, year)) {
                    continue;
                }
                for (int e = 0; e < events.size; e++) {
                    if (events.cells[EVENT_YEAR][e] == year && !isSet(missing, e)) {
                        befall(events.cells[EVENT_KIND][e], events.cells[EVENT_HOUSE][e]);
                    }
                }
                for (int b = 0; b < brides.size; b++) {
                    if (brides.cells[YEAR][b] == year && houses.hasRow(brides.cells[HOUSE][b])) {
                        arrive(b, brides.cells[HOUSE][b]);
                    }
                }
            }
        }

        private void befall(int kind, int house) {
            if (kind == CARPENTER) {
                sawAll(house);
            } else if (kind == HARD_TIMES) {
                takeDown(highestIn(house), BURNT);
            } else {
                takeDown(lowestIn(house), ON_MOOR);
            }
        }

        private void sawAll(int house) {
            for (int b = 0; b < brides.size; b++) {
                if (hung[b] == house && height[b] > 1) {
                    height[b]--;
                    sawn[b]++;
                }
            }
        }

        private void takeDown(int bride, int whereTo) {
            if (bride >= 0 && bride < brides.size) {
                state[bride] = whereTo;
                hung[bride] = NONE;
            }
        }

        private void arrive(int bride, int house) {
            int brought = broughtBy(bride);
            if (brought == NONE) {
                state[bride] = BROUGHT_NONE;
                return;
            }
            if (brought > opens[house]) {
                opens[house] = widened(house, brought);
            }
            height[bride] = Math.min(brought, opens[house]);
            sawn[bride] = brought - height[bride];
            state[bride] = HANGS;
            hung[bride] = house;
        }

        /** How high a door she brings; NONE if she brings none. */
        private int broughtBy(int bride) {
            int mother = brides.cells[MOTHER][bride];
            if (mother == NO_MOTHER) {
                return brides.cells[HIGH][bride];
            }
            if (mother < 0 || mother >= brides.size || state[mother] != HANGS) {
                return NONE;
            }
            int lower = height[mother] - LOST_TO_DAUGHTER;
            return lower < 1 ? 1 : lower;
        }

        /** How high a house opens once a door that is too high for it has come. */
        private int widened(int house, int door) {
            int most = houses.cells[OPENS][house] + WOOD_GIVES;
            switch (houses.cells[SORT][house]) {
                case TURF: return door;
                case WOOD: return door < most ? door : most;
                default: return opens[house];
            }
        }

        /** Whose door is the highest in a house, of like ones the least; NONE if none hangs. */
        int highestIn(int house) {
            int found = NONE;
            for (int b = 0; b < brides.size; b++) {
                if (hung[b] == house && (found == NONE || height[b] > height[found])) {
                    found = b;
                }
            }
            return found;
        }

        int lowestIn(int house) {
            int found = NONE;
            for (int b = 0; b < brides.size; b++) {
                if (hung[b] == house && (found == NONE || height[b] < height[found])) {
                    found = b;
                }
            }
            return found;
        }

        int heightOf(int bride) {
            return bride >= 0 && bride < brides.size ? height[bride] : 0;
        }

        int doorsIn(int house) {
            int doors = 0;
            for (int b = 0; b < brides.size; b++) {
                if (hung[b] == house) {
                    doors++;
                }
            }
            return doors;
        }

        int gapOf(int house) {
            return houses.hasRow(house) ? opens[house] - heightOf(highestIn(house)) : 0;
        }

        int allGaps() {
            int gaps = 0;
            for (int house = 0; house < houses.size; house++) {
                gaps += gapOf(house);
            }
            return gaps;
        }

        int openBits() {
            int bits = 0;
            for (int house = 0; house < houses.size; house++) {
                if (highestIn(house) == NONE) {
                    bits |= 1 << house;
                }
            }
            return bits;
        }

        /** Whose doors are in a state, as bits. */
        int bitsOf(int wanted) {
            int bits = 0;
            for (int b = 0; b < brides.size; b++) {
                if (state[b] == wanted) {
                    bits |= 1 << b;
                }
            }
            return bits;
        }
    }

    /** A row of bytes, shorts or ints; the room for its items is made once and used again. */
    private static final class Sheet {
        final int[] items = new int[MOST_ITEMS];
        boolean lost = true;
        int form = 0;
        int size = 0;

        void renew(int form, int size) {
            Arrays.fill(items, 0);
            this.form = form;
            this.size = size;
            lost = false;
        }

        /** What keeps an item from being used as of a form; 0 if nothing does. */
        int flawOf(int form, int i) {
            if (lost) {
                return NULL;
            }
            if (form != this.form) {
                return CAST;
            }
            return isBelow(i, size) ? 0 : INDEX;
        }

        boolean hasRange(int first, int many) {
            return first >= 0 && many >= 0 && first <= size && many <= size - first;
        }

        void put(int i, int v) {
            if (isBelow(i, size)) {
                items[i] = narrowed(v);
            }
        }

        private int narrowed(int v) {
            switch (form) {
                case 0: return (byte) v;
                case 1: return (short) v;
                default: return v;
            }
        }
    }
}
