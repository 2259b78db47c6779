import java.math.BigInteger;
import java.util.ArrayList;
import java.util.Comparator;
import java.util.List;
import java.util.TreeMap;
import java.util.function.Function;
import java.util.function.Predicate;
import java.util.regex.Pattern;
import java.util.stream.Collectors;
import java.util.stream.IntStream;

/**
 * The document written down a second time, as slowly and plainly as can be: no tables, no memory of
 * earlier answers, every question asked of a village that is lived through anew.
 */
final class Oracle {
    static final int NONE = -1, BAD = -2, NOT = -3, FULL = -4;

    record House(char sort, int opens) { }
    record Bride(int house, int year, int mother, int high) { }
    record Event(int kind, int year, int house) { }
    record Sight(int year, int house, int gap) { }

    static final class Door {
        int what, high, sawn, house = NONE;
    }

    /** What stands behind one year. */
    static final class Village {
        final List<House> houses;
        final List<Bride> brides;
        final int[] opens;
        final List<Door> doors = new ArrayList<>();

        Village(List<House> houses, List<Bride> brides, List<Event> events, int lastYear) {
            this.houses = houses;
            this.brides = brides;
            this.opens = houses.stream().mapToInt(House::opens).toArray();
            brides.forEach(b -> doors.add(new Door()));
            for (int year = 0; year <= lastYear; year++) {
                for (Event e : events) {
                    if (e.year() == year) {
                        befall(e);
                    }
                }
                for (int b = 0; b < brides.size(); b++) {
                    if (brides.get(b).year() == year && brides.get(b).house() < houses.size()) {
                        come(b);
                    }
                }
            }
        }

        List<Door> hangingIn(int house) {
            return doors.stream().filter(d -> d.what == 1 && d.house == house).collect(Collectors.toList());
        }

        void befall(Event e) {
            List<Door> there = hangingIn(e.house());
            if (there.isEmpty()) {
                return;
            }
            // a stable sort keeps the least bride first among like doors
            if (e.kind() == 0) {
                there.sort(Comparator.comparingInt(d -> -d.high));
                there.get(0).what = 2;
            } else if (e.kind() == 2) {
                there.sort(Comparator.comparingInt(d -> d.high));
                there.get(0).what = 3;
            } else {
                for (Door d : there) {
                    int lower = Math.max(1, d.high - 1);
                    d.sawn += d.high - lower;
                    d.high = lower;
                }
            }
        }

        void come(int b) {
            Bride bride = brides.get(b);
            Door door = doors.get(b);
            door.what = 4;
            int high;
            if (bride.mother() == 8) {
                high = bride.high();
            } else if (bride.mother() < brides.size() && bride.mother() != b && doors.get(bride.mother()).what == 1) {
                high = Math.max(1, doors.get(bride.mother()).high - 2);
            } else {
                return;
            }
            House house = houses.get(bride.house());
            int more = high - opens[bride.house()];
            if (more > 0 && house.sort() == 't') {
                opens[bride.house()] += more;
            }
            if (more > 0 && house.sort() == 'w') {
                opens[bride.house()] += Math.min(more, house.opens() + 2 - opens[bride.house()]);
            }
            door.sawn = Math.max(0, high - opens[bride.house()]);
            door.high = high - door.sawn;
            door.what = 1;
            door.house = bride.house();
        }

        int gap(int house) {
            return opens[house] - hangingIn(house).stream().mapToInt(d -> d.high).max().orElse(0);
        }

        int draught() {
            return IntStream.range(0, houses.size()).map(this::gap).sum();
        }

        boolean isOpen(int house) {
            return hangingIn(house).isEmpty();
        }

        int openBits() {
            return IntStream.range(0, houses.size()).filter(this::isOpen).map(h -> 1 << h).sum();
        }

        int bits(int what) {
            return IntStream.range(0, doors.size()).filter(b -> doors.get(b).what == what).map(b -> 1 << b).sum();
        }
    }

    final StringBuilder[] texts = {new StringBuilder(), new StringBuilder()};
    final List<Event> events = new ArrayList<>();
    final List<Sight> sights = new ArrayList<>();
    /** null: lost; byte[], short[] or int[] otherwise. */
    final Object[] sheets = new Object[4];
    int latest = 0;

    // ---- houses, brides, events

    static boolean in(int x, int low, int high) {
        return low <= x && x <= high;
    }

    int type(int text, int b) {
        if (!in(text, 0, 1) || !in(b, 0, 255)) return BAD;
        if (texts[text].length() == (text == 0 ? 17 : 39)) return FULL;
        return texts[text].append((char) b).length();
    }

    int wipe(int text) {
        if (!in(text, 0, 1)) return BAD;
        int had = texts[text].length();
        texts[text].setLength(0);
        return had;
    }

    int undo(int text) {
        if (!in(text, 0, 1)) return BAD;
        if (texts[text].length() == 0) return NOT;
        texts[text].setLength(texts[text].length() - 1);
        return texts[text].length();
    }

    int fault(int text) {
        if (!in(text, 0, 1)) return BAD;
        String item = text == 0 ? "[swt][a-t]" : "[0-5][a-x][0-8][a-t]";
        String whole = texts[text].toString();
        Pattern well = Pattern.compile("(" + item + "(;" + item + ")*)?");
        if (well.matcher(whole).matches()) return NONE;
        // a beginning can go on if it, or it with something behind it, is well: that is a matcher that hit the end
        for (int n = 1; n <= whole.length(); n++) {
            var matcher = well.matcher(whole.substring(0, n));
            if (!matcher.matches() && !matcher.hitEnd()) return n - 1;
        }
        return whole.length();
    }

    List<House> houses() {
        List<House> found = new ArrayList<>();
        if (fault(0) == NONE && texts[0].length() > 0) {
            for (String s : texts[0].toString().split(";")) found.add(new House(s.charAt(0), s.charAt(1) - 'a' + 1));
        }
        return found;
    }

    List<Bride> brides() {
        List<Bride> found = new ArrayList<>();
        if (fault(1) == NONE && texts[1].length() > 0) {
            for (String s : texts[1].toString().split(";")) {
                found.add(new Bride(s.charAt(0) - '0', s.charAt(1) - 'a', s.charAt(2) - '0', s.charAt(3) - 'a' + 1));
            }
        }
        return found;
    }

    boolean noHouse(int house) {
        return !in(house, 0, houses().size() - 1);
    }

    boolean noBride(int bride) {
        return !in(bride, 0, brides().size() - 1);
    }

    int house(int house, int what) {
        if (noHouse(house) || !in(what, 0, 1)) return BAD;
        return what == 0 ? "swt".indexOf(houses().get(house).sort()) : houses().get(house).opens();
    }

    int bride(int bride, int what) {
        if (noBride(bride) || !in(what, 0, 3)) return BAD;
        Bride b = brides().get(bride);
        return new int[] {b.house(), b.year(), b.mother(), b.high()}[what];
    }

    int event(int kind, int year, int house) {
        if (!in(kind, 0, 2) || !in(year, 0, 23) || !in(house, 0, 5)) return BAD;
        if (events.size() == 8) return FULL;
        events.add(new Event(kind, year, house));
        return events.size();
    }

    int back() {
        if (events.isEmpty()) return NOT;
        events.remove(events.size() - 1);
        return events.size();
    }

    int read(int s) {
        if (!in(s, 0, 3)) return BAD;
        if (sheets[s] == null) return found(1);
        int came = 0;
        while (3 * came + 2 < size(s)
            && event(item(s, 3 * came), item(s, 3 * came + 1), item(s, 3 * came + 2)) > 0) came++;
        return came;
    }

    // ---- years

    Village village(int year) {
        return new Village(houses(), brides(), events, year);
    }

    int at(int year, int house, int what) {
        if (!in(year, 0, 23) || noHouse(house) || !in(what, 0, 4)) return BAD;
        Village v = village(year);
        IntStream highs = v.hangingIn(house).stream().mapToInt(d -> d.high);
        return switch (what) {
            case 0 -> v.opens[house];
            case 1 -> (int) highs.count();
            case 2 -> highs.max().orElse(0);
            case 3 -> highs.min().orElse(0);
            default -> v.gap(house);
        };
    }

    int door(int year, int bride, int what) {
        if (!in(year, 0, 23) || noBride(bride) || !in(what, 0, 2)) return BAD;
        Door d = village(year).doors.get(bride);
        return new int[] {d.what, d.high, d.sawn}[what];
    }

    int draught(int year) {
        return in(year, 0, 23) ? village(year).draught() : BAD;
    }

    int dog(int what) {
        if (!in(what, 0, 1)) return BAD;
        for (int year = 0; year <= 23; year++) {
            Village v = village(year);
            for (int h = 0; h < houses().size(); h++) {
                if (!v.isOpen(h) && v.gap(h) >= 5) return what == 0 ? year : h;
            }
        }
        return NONE;
    }

    int kin(int bride) {
        return noBride(bride) ? BAD : kinOf(bride, 8);
    }

    int kinOf(int bride, int room) {
        int mother = brides().get(bride).mother();
        return room == 0 || noBride(mother) ? 0 : 1 + kinOf(mother, room - 1);
    }

    int lowest() {
        List<Door> doors = village(23).doors;
        return IntStream.range(0, doors.size()).filter(b -> doors.get(b).what == 1).boxed()
            .min(Comparator.comparingInt(b -> 100 * doors.get(b).high + b)).orElse(NONE);
    }

    int left(int what) {
        if (!in(what, 0, 1)) return BAD;
        return what == 0 ? village(23).openBits() : village(23).bits(3);
    }

    // ---- plans

    int plan(int bride, int what, int values, Predicate<Integer> may, Function<Integer, Bride> other) {
        if (noBride(bride) || !in(what, 0, 1)) return BAD;
        int best = NONE, least = NONE;
        for (int value = 0; value < values; value++) {
            if (!may.test(value)) continue;
            List<Bride> changed = new ArrayList<>(brides());
            changed.set(bride, other.apply(value));
            int draught = new Village(houses(), changed, events, 23).draught();
            if (best == NONE || draught < least) {
                best = value;
                least = draught;
            }
        }
        return what == 0 ? best : least;
    }

    int wed(int bride, int what) {
        Function<Integer, Bride> other = v -> {
            Bride b = brides().get(bride);
            return new Bride(v, b.year(), b.mother(), b.high());
        };
        return plan(bride, what, houses().size(), v -> true, other);
    }

    int when(int bride, int what) {
        Function<Integer, Bride> other = v -> {
            Bride b = brides().get(bride);
            return new Bride(b.house(), v, b.mother(), b.high());
        };
        return plan(bride, what, 24, v -> true, other);
    }

    int from(int bride, int what) {
        Function<Integer, Bride> other = v -> {
            Bride b = brides().get(bride);
            return new Bride(b.house(), b.year(), v, b.high());
        };
        return plan(bride, what, 9, v -> v != bride, other);
    }

    List<Event> without(int bits) {
        return IntStream.range(0, events.size()).filter(i -> (bits >> i & 1) == 0).mapToObj(events::get)
            .collect(Collectors.toList());
    }

    int spare(int i) {
        if (!in(i, -1, 1)) return BAD;
        List<int[]> rows = new ArrayList<>();
        rows.add(new int[0]);
        for (int a = 0; a < events.size(); a++) rows.add(new int[] {a});
        for (int a = 0; a < events.size(); a++) for (int b = a + 1; b < events.size(); b++) rows.add(new int[] {a, b});
        for (int[] row : rows) {
            int bits = IntStream.of(row).map(e -> 1 << e).sum();
            if (new Village(houses(), brides(), without(bits), 23).openBits() == 0) {
                return i == NONE ? row.length : i < row.length ? row[i] : NONE;
            }
        }
        return NONE;
    }

    // ---- seen, chance, ages

    int seen(int year, int house, int gap) {
        if (!in(year, 0, 23) || !in(house, 0, 5) || !in(gap, 0, 20)) return BAD;
        if (sights.size() == 8) return FULL;
        sights.add(new Sight(year, house, gap));
        return sights.size();
    }

    int forget() {
        int had = sights.size();
        sights.clear();
        return had;
    }

    boolean comesOut(List<House> houses, List<Event> events) {
        return sights.stream().allMatch(s -> s.house() < houses.size()
            && new Village(houses, brides(), events, s.year()).gap(s.house()) == s.gap());
    }

    int never() {
        return IntStream.range(0, events.size()).map(e -> 1 << e).filter(e -> comesOut(houses(), without(e))).sum();
    }

    List<House> withHouse(int house, House other) {
        List<House> changed = new ArrayList<>(houses());
        changed.set(house, other);
        return changed;
    }

    List<Integer> opened(int house) {
        char sort = houses().get(house).sort();
        return IntStream.rangeClosed(1, 20).filter(h -> comesOut(withHouse(house, new House(sort, h)), events)).boxed()
            .collect(Collectors.toList());
    }

    int was(int house, int what) {
        if (noHouse(house) || !in(what, 0, 1)) return BAD;
        if (what == 0) return opened(house).stream().mapToInt(h -> 1 << h).sum();
        int opens = houses().get(house).opens();
        return IntStream.range(0, 3)
            .filter(k -> comesOut(withHouse(house, new House("swt".charAt(k), opens)), events)).map(k -> 1 << k).sum();
    }

    int ask(int house) {
        if (noHouse(house)) return BAD;
        char sort = houses().get(house).sort();
        List<Integer> opened = opened(house);
        int best = NONE, least = NONE;
        for (int year = 0; year <= 23; year++) {
            TreeMap<Integer, Integer> groups = new TreeMap<>();
            for (int h : opened) {
                groups.merge(new Village(withHouse(house, new House(sort, h)), brides(), events, year).gap(house), 1, Integer::sum);
            }
            int greatest = groups.values().stream().mapToInt(n -> n).max().orElse(0);
            if (best == NONE || greatest < least) {
                best = year;
                least = greatest;
            }
        }
        return best;
    }

    long chance(int c, int house, int what) {
        if (!in(c, 0, 16) || noHouse(house) || !in(what, 0, 1)) return Long.MIN_VALUE + 2;
        BigInteger above = BigInteger.ZERO, below = BigInteger.valueOf(16).pow(events.size());
        for (int bits = 0; bits < 1 << events.size(); bits++) {
            if (new Village(houses(), brides(), without(bits), 23).isOpen(house)) {
                int gone = Integer.bitCount(bits);
                above = above.add(BigInteger.valueOf(16 - c).pow(gone).multiply(BigInteger.valueOf(c).pow(events.size() - gone)));
            }
        }
        BigInteger common = above.gcd(below);
        return (what == 0 ? above : below).divide(common).longValueExact();
    }

    int ages(int seed, int n, int what) {
        if (!in(n, 0, 8) || !in(what, 0, 1)) return BAD;
        int[] lots = new int[3 * n];
        int[] of = {3, 24, 6};
        for (int i = 0; i < lots.length; i++) {
            seed = (int) (1103515245L * seed + 12345L);
            lots[i] = (int) ((seed & 0xffffffffL) / 65536 % of[i % 3]);
        }
        List<Event> drawn = IntStream.range(0, n).mapToObj(i -> new Event(lots[3 * i], lots[3 * i + 1], lots[3 * i + 2]))
            .collect(Collectors.toList());
        Village v = new Village(houses(), brides(), drawn, 23);
        return what == 0 ? v.draught() : Integer.bitCount(v.bits(3));
    }

    // ---- sheets

    int found(int number) {
        latest = number;
        return -10 - number;
    }

    int form(int s) {
        return sheets[s] instanceof byte[] ? 0 : sheets[s] instanceof short[] ? 1 : 2;
    }

    int size(int s) {
        return java.lang.reflect.Array.getLength(sheets[s]);
    }

    int item(int s, int i) {
        return java.lang.reflect.Array.getInt(sheets[s], i);
    }

    void set(int s, int i, int v) {
        if (sheets[s] instanceof byte[] row) row[i] = (byte) v;
        else if (sheets[s] instanceof short[] row) row[i] = (short) v;
        else ((int[]) sheets[s])[i] = v;
    }

    int sheet(int s, int form, int n) {
        if (!in(s, 0, 3) || !in(form, 0, 2) || n > 60) return BAD;
        if (n < 0) return found(5);
        sheets[s] = form == 0 ? new byte[n] : form == 1 ? new short[n] : new int[n];
        return n;
    }

    int lose(int s) {
        if (!in(s, 0, 3)) return BAD;
        if (sheets[s] == null) return found(1);
        int had = size(s);
        sheets[s] = null;
        return had;
    }

    int lay(int s, int form, int i, int v) {
        if (!in(s, 0, 3) || !in(form, 0, 2)) return BAD;
        if (sheets[s] == null) return found(1);
        if (form(s) != form) return found(3);
        if (!in(i, 0, size(s) - 1)) return found(2);
        set(s, i, v);
        return 1;
    }

    int get(int s, int form, int i) {
        int least = Integer.MIN_VALUE;
        if (!in(s, 0, 3) || !in(form, 0, 2)) return least;
        int flaw = sheets[s] == null ? 1 : form(s) != form ? 3 : !in(i, 0, size(s) - 1) ? 2 : 0;
        if (flaw != 0) latest = flaw;
        return flaw != 0 ? least : item(s, i);
    }

    int copy(int s, int i, int t, int j, int n) {
        if (!in(s, 0, 3) || !in(t, 0, 3)) return BAD;
        if (sheets[s] == null || sheets[t] == null) return found(1);
        if (form(s) != form(t)) return found(4);
        if (i < 0 || j < 0 || n < 0 || (long) i + n > size(s) || (long) j + n > size(t)) return found(2);
        System.arraycopy(sheets[s], i, sheets[t], j, n);
        return 1;
    }

    int write(int house, int s) {
        if (noHouse(house) || !in(s, 0, 3)) return BAD;
        if (sheets[s] == null) return found(1);
        int many = Math.min(24, size(s));
        for (int year = 0; year < many; year++) set(s, year, village(year).gap(house));
        return many;
    }

    int count(int what) {
        return switch (what) {
            case 0 -> houses().size();
            case 1 -> brides().size();
            case 2 -> texts[0].length();
            case 3 -> texts[1].length();
            case 4 -> events.size();
            case 5 -> village(23).draught();
            case 6 -> Integer.bitCount(village(23).bits(2));
            case 7 -> sights.size();
            case 8 -> latest;
            default -> BAD;
        };
    }

    long digest() {
        List<Long> all = new ArrayList<>();
        for (int i = 0; i <= 7; i++) all.add((long) count(i));
        for (int text = 0; text <= 1; text++) all.add((long) fault(text));
        for (int h = 0; h < houses().size(); h++) {
            for (int w = 0; w <= 1; w++) all.add((long) house(h, w));
            for (int year : new int[] {0, 7, 15, 23}) for (int w = 0; w <= 4; w++) all.add((long) at(year, h, w));
            for (int w = 0; w <= 1; w++) all.add((long) was(h, w));
            all.add((long) ask(h));
            for (int w = 0; w <= 1; w++) all.add(chance(5, h, w));
        }
        for (int b = 0; b < brides().size(); b++) {
            for (int w = 0; w <= 3; w++) all.add((long) bride(b, w));
            for (int year : new int[] {7, 15, 23}) for (int w = 0; w <= 2; w++) all.add((long) door(year, b, w));
            all.add((long) kin(b));
            for (int w = 0; w <= 1; w++) all.add((long) wed(b, w));
            for (int w = 0; w <= 1; w++) all.add((long) when(b, w));
            for (int w = 0; w <= 1; w++) all.add((long) from(b, w));
        }
        for (int year = 0; year <= 23; year++) all.add((long) draught(year));
        for (int w = 0; w <= 1; w++) all.add((long) dog(w));
        all.add((long) lowest());
        for (int w = 0; w <= 1; w++) all.add((long) left(w));
        all.add((long) spare(NONE));
        all.add((long) spare(0));
        all.add((long) never());
        for (int w = 0; w <= 1; w++) all.add((long) ages(7, 6, w));
        long h = 17;
        for (long value : all) h = 31 * h + value;
        return h;
    }
}
