import java.util.ArrayList;
import java.util.Arrays;
import java.util.Comparator;
import java.util.HashMap;
import java.util.List;
import java.util.Map;
import java.util.PriorityQueue;
import java.util.Set;

/**
 * The document once more, told as slowly and plainly as it can be: every map is listed, every way of the lift is sought.
 * RandomRunsTest holds FloorsByLot against it.
 */
public final class Oracle {
    private interface Sum {
        long of(World w, int h, int f);
    }

    private interface Truth {
        boolean of(World w, int h, int f);
    }

    private static final class Flat {
        int floor;
        int column;
        int size;
        int light;
        int faults;
    }

    private static final class Household {
        final int[] traits = new int[5];
        int flat = -1;
    }

    private static final class World {
        List<Flat> flats = new ArrayList<>();
        List<Household> households = new ArrayList<>();
        Map<String, Integer> times = new HashMap<>();
        int quarter = 0;
        int lines = 0;
        Truth may = (w, h, f) -> true;
        Sum worth = (w, h, f) -> 0;

        World copy() {
            World c = new World();
            for (Flat f : flats) {
                Flat g = new Flat();
                g.floor = f.floor;
                g.column = f.column;
                g.size = f.size;
                g.light = f.light;
                g.faults = f.faults;
                c.flats.add(g);
            }
            for (Household h : households) {
                Household k = new Household();
                System.arraycopy(h.traits, 0, k.traits, 0, 5);
                k.flat = h.flat;
                c.households.add(k);
            }
            c.times.putAll(times);
            c.quarter = quarter;
            c.lines = lines;
            c.may = may;
            c.worth = worth;
            return c;
        }

        int dweller(int f) {
            for (int h = 0; h < households.size(); h++) {
                if (households.get(h).flat == f) {
                    return h;
                }
            }
            return -1;
        }

        int timesOf(int h, int f) {
            return times.getOrDefault(h + "/" + f, 0);
        }

        List<int[]> maps() {
            List<int[]> out = new ArrayList<>();
            boolean[][] ok = new boolean[households.size()][flats.size()];
            for (int h = 0; h < households.size(); h++) {
                for (int f = 0; f < flats.size(); f++) {
                    ok[h][f] = may.of(this, h, f);
                }
            }
            list(out, ok, new int[households.size()], 0);
            return out;
        }

        private void list(List<int[]> out, boolean[][] ok, int[] map, int h) {
            if (h == map.length) {
                out.add(map.clone());
                return;
            }
            for (int f = 0; f < flats.size(); f++) {
                boolean free = ok[h][f];
                for (int k = 0; k < h; k++) {
                    free &= map[k] != f;
                }
                if (free) {
                    map[h] = f;
                    list(out, ok, map, h + 1);
                }
            }
        }

        boolean above(int upper, int lower) {
            return flats.get(upper).floor == flats.get(lower).floor + 1 && flats.get(upper).column == flats.get(lower).column;
        }

        int harm(int[] map) {
            int sum = 0;
            for (int a = 0; a < map.length; a++) {
                for (int b = 0; b < map.length; b++) {
                    if (map[a] >= 0 && map[b] >= 0 && above(map[a], map[b])) {
                        sum += households.get(a).traits[1] * households.get(b).traits[2];
                    }
                }
            }
            return sum;
        }

        int[] homes() {
            return households.stream().mapToInt(h -> h.flat).toArray();
        }

        long bestSum() {
            long most = Long.MIN_VALUE;
            for (int[] map : maps()) {
                most = Math.max(most, sumOf(map));
            }
            return most;
        }

        long sumOf(int[] map) {
            long sum = 0;
            for (int h = 0; h < map.length; h++) {
                sum += worth.of(this, h, map[h]);
            }
            return sum;
        }

        long leastOf(int[] map) {
            long least = Long.MAX_VALUE;
            for (int h = 0; h < map.length; h++) {
                least = Math.min(least, worth.of(this, h, map[h]));
            }
            return least;
        }
    }

    private static final class Fault extends RuntimeException {
        private static final long serialVersionUID = 1;
        final int kind;
        final int place;

        Fault(int kind, int place) {
            super(null, null, false, false);
            this.kind = kind;
            this.place = place;
        }
    }

    private record Token(char sort, String text, int place) {
        boolean is(String s) {
            return (sort == 'w' || sort == 's') && text.equals(s);
        }
    }

    private static final class Parser {
        final List<Token> tokens = new ArrayList<>();
        final World w = new World();
        int i = 0;

        Parser(String text) {
            int p = 0;
            while (p < text.length()) {
                char c = text.charAt(p);
                int q = p + 1;
                if (c == ' ' || c == '\n') {
                    p = q;
                    continue;
                }
                if (c >= 'a' && c <= 'z') {
                    while (q < text.length() && text.charAt(q) >= 'a' && text.charAt(q) <= 'z') {
                        q++;
                    }
                    tokens.add(new Token('w', text.substring(p, q), p));
                } else if (c >= '0' && c <= '9') {
                    while (q < text.length() && text.charAt(q) >= '0' && text.charAt(q) <= '9') {
                        q++;
                    }
                    tokens.add(new Token(q - p > 3 ? '?' : 'n', text.substring(p, q), p));
                } else {
                    tokens.add(new Token(";:+-*()[]=<>".indexOf(c) >= 0 ? 's' : '?', text.substring(p, q), p));
                }
                p = q;
            }
            tokens.add(new Token('e', "", text.length()));
        }

        Token now() {
            return tokens.get(i);
        }

        Fault misplaced() {
            return new Fault(now().sort == '?' ? 1 : 2, now().place);
        }

        boolean got(String s) {
            if (now().is(s)) {
                i++;
                return true;
            }
            return false;
        }

        void want(String s) {
            if (!got(s)) {
                throw misplaced();
            }
        }

        int number(java.util.function.IntPredicate fits) {
            if (now().sort != 'n') {
                throw misplaced();
            }
            int v = Integer.parseInt(now().text);
            if (!fits.test(v)) {
                throw new Fault(3, now().place);
            }
            i++;
            return v;
        }

        World parse() {
            while (now().sort != 'e') {
                int place = now().place;
                if (got("flat")) {
                    flat(place);
                } else if (got("household")) {
                    household(place);
                } else if (got("lives")) {
                    int h = number(v -> v < w.households.size() && w.households.get(v).flat < 0);
                    int f = number(v -> v < w.flats.size() && w.dweller(v) < 0);
                    w.households.get(h).flat = f;
                } else if (got("may")) {
                    want(":");
                    w.may = truth(0);
                } else if (got("worth")) {
                    want(":");
                    w.worth = sum(0);
                } else if (got("quarter")) {
                    w.quarter = number(v -> true);
                } else {
                    throw misplaced();
                }
                want(";");
                w.lines++;
            }
            return w;
        }

        void flat(int place) {
            if (w.flats.size() == 8) {
                throw new Fault(4, place);
            }
            Flat f = new Flat();
            f.floor = number(v -> v <= 9);
            f.column = number(v -> v <= 3 && w.flats.stream().noneMatch(g -> g.floor == f.floor && g.column == v));
            want("size");
            f.size = number(v -> v >= 1 && v <= 99);
            w.flats.add(f);
            while (true) {
                if (got("light")) {
                    f.light = number(v -> v <= 9);
                } else if (got("faults")) {
                    f.faults = number(v -> v <= 9);
                } else {
                    return;
                }
            }
        }

        void household(int place) {
            if (w.households.size() == 7) {
                throw new Fault(4, place);
            }
            Household h = new Household();
            h.traits[0] = number(v -> v >= 1 && v <= 99);
            w.households.add(h);
            List<String> flags = List.of("people", "noise", "ears", "stairs", "age");
            while (now().sort == 'w' && flags.indexOf(now().text) > 0) {
                int k = flags.indexOf(now().text);
                i++;
                h.traits[k] = number(v -> v <= 99);
            }
        }

        Truth truth(int depth) {
            Truth left = both(depth);
            while (got("or")) {
                Truth a = left;
                Truth b = both(depth);
                left = (w, h, f) -> a.of(w, h, f) || b.of(w, h, f);
            }
            return left;
        }

        Truth both(int depth) {
            Truth left = unit(depth);
            while (got("and")) {
                Truth a = left;
                Truth b = unit(depth);
                left = (w, h, f) -> a.of(w, h, f) && b.of(w, h, f);
            }
            return left;
        }

        void deepen(int depth) {
            if (depth == 6) {
                throw new Fault(4, now().place);
            }
            i++;
        }

        Truth unit(int depth) {
            if (now().is("not")) {
                deepen(depth);
                Truth a = unit(depth + 1);
                return (w, h, f) -> !a.of(w, h, f);
            }
            if (now().is("[")) {
                deepen(depth);
                Truth a = truth(depth + 1);
                want("]");
                return a;
            }
            Sum a = sum(depth);
            String sign = now().text;
            if (!got("=") && !got("<") && !got(">")) {
                throw misplaced();
            }
            Sum b = sum(depth);
            return switch (sign) {
                case "=" -> (w, h, f) -> a.of(w, h, f) == b.of(w, h, f);
                case "<" -> (w, h, f) -> a.of(w, h, f) < b.of(w, h, f);
                default -> (w, h, f) -> a.of(w, h, f) > b.of(w, h, f);
            };
        }

        static long clamp(long v) {
            return v > 1000000 ? 1000000 : v < -1000000 ? -1000000 : v;
        }

        Sum sum(int depth) {
            Sum left = term(depth);
            while (now().is("+") || now().is("-")) {
                int sign = now().is("+") ? 1 : -1;
                i++;
                Sum a = left;
                Sum b = term(depth);
                left = (w, h, f) -> clamp(a.of(w, h, f) + sign * b.of(w, h, f));
            }
            return left;
        }

        Sum term(int depth) {
            Sum left = atom(depth);
            while (got("*")) {
                Sum a = left;
                Sum b = atom(depth);
                left = (w, h, f) -> clamp(a.of(w, h, f) * b.of(w, h, f));
            }
            return left;
        }

        Sum atom(int depth) {
            if (now().is("(")) {
                deepen(depth);
                Sum a = sum(depth + 1);
                want(")");
                return a;
            }
            Token t = now();
            if (t.sort == 'n') {
                i++;
                int v = Integer.parseInt(t.text);
                return (w, h, f) -> v;
            }
            Sum s = t.sort != 'w' ? null : switch (t.text) {
                case "floor" -> (w, h, f) -> w.flats.get(f).floor;
                case "column" -> (w, h, f) -> w.flats.get(f).column;
                case "size" -> (w, h, f) -> w.flats.get(f).size;
                case "light" -> (w, h, f) -> w.flats.get(f).light;
                case "faults" -> (w, h, f) -> w.flats.get(f).faults;
                case "people" -> (w, h, f) -> w.households.get(h).traits[0];
                case "noise" -> (w, h, f) -> w.households.get(h).traits[1];
                case "ears" -> (w, h, f) -> w.households.get(h).traits[2];
                case "stairs" -> (w, h, f) -> w.households.get(h).traits[3];
                case "age" -> (w, h, f) -> w.households.get(h).traits[4];
                case "was" -> (w, h, f) -> w.households.get(h).flat == f ? 1 : 0;
                case "times" -> (w, h, f) -> w.timesOf(h, f);
                case "quarter" -> (w, h, f) -> w.quarter % 1000;
                default -> null;
            };
            if (s == null) {
                throw misplaced();
            }
            i++;
            return s;
        }
    }

    private World w = new World();
    private final StringBuilder tape = new StringBuilder();
    private final List<World> past = new ArrayList<>();
    private final World[] images = new World[2];
    private final long[][] trays = new long[4][];
    private final int[] sorts = new int[4];
    private int faultKind = 0;
    private int faultPlace = -1;

    public int feed(int a, int b, int c, int d, int e) {
        if (tape.length() > 880) {
            return -5;
        }
        for (int v : new int[] {a, b, c, d, e}) {
            tape.append((char) (v >>> 24)).append((char) (v >>> 16 & 255)).append((char) (v >>> 8 & 255)).append((char) (v & 255));
        }
        return tape.length();
    }

    public int tower(int n) {
        if (n < 0 || n > tape.length()) {
            return -3;
        }
        String text = tape.substring(0, n);
        tape.setLength(0);
        try {
            w = new Parser(text).parse();
        } catch (Fault f) {
            faultKind = f.kind;
            faultPlace = f.place;
            return -30 - f.kind;
        }
        faultKind = 0;
        faultPlace = -1;
        past.clear();
        return w.lines;
    }

    public int fault(int what) {
        return what == 0 ? faultKind : what == 1 ? faultPlace : -1;
    }

    private boolean noFlat(int f) {
        return f < 0 || f >= w.flats.size();
    }

    private boolean noHousehold(int h) {
        return h < 0 || h >= w.households.size();
    }

    public int flat(int f, int what) {
        if (noFlat(f)) {
            return -8;
        }
        Flat g = w.flats.get(f);
        return switch (what) {
            case 0 -> g.floor;
            case 1 -> g.column;
            case 2 -> g.size;
            case 3 -> g.light;
            case 4 -> g.faults;
            case 5 -> w.dweller(f);
            default -> -8;
        };
    }

    public int household(int h, int what) {
        if (noHousehold(h) || what < 0 || what > 5) {
            return -8;
        }
        return what == 5 ? w.households.get(h).flat : w.households.get(h).traits[what];
    }

    public int times(int h, int f) {
        return noHousehold(h) || noFlat(f) ? -2 : w.timesOf(h, f);
    }

    public int may(int h, int f) {
        return noHousehold(h) || noFlat(f) ? -2 : w.may.of(w, h, f) ? 1 : 0;
    }

    public int worth(int h, int f) {
        return noHousehold(h) || noFlat(f) ? -2000000 : (int) w.worth.of(w, h, f);
    }

    private void remember(World before) {
        past.add(before);
        if (past.size() > 10) {
            past.remove(0);
        }
    }

    /** Does one deed: 0, or why not; 100 if it was done and nothing came of it. */
    private int deed(long v) {
        if (v >= 4000) {
            List<int[]> maps = w.maps();
            if (maps.isEmpty()) {
                return 2;
            }
            int[] map = maps.get((int) ((v - 4000) % maps.size()));
            for (int h = 0; h < map.length; h++) {
                w.households.get(h).flat = map[h];
                w.times.merge(h + "/" + map[h], 1, Integer::sum);
            }
            w.quarter++;
            return 0;
        }
        if (v == 3000) {
            int[] gets = ringsNow(new int[1]);
            boolean same = Arrays.equals(gets, w.homes());
            for (int h = 0; h < gets.length; h++) {
                w.households.get(h).flat = gets[h];
            }
            return same ? 100 : 0;
        }
        if (v >= 2100 && v < 2100 + w.flats.size()) {
            Flat f = w.flats.get((int) v - 2100);
            if (f.faults == 0) {
                return 2;
            }
            f.faults = 0;
            return 0;
        }
        if (v >= 2000 && v < 2000 + w.flats.size()) {
            Flat f = w.flats.get((int) v - 2000);
            if (f.faults == 9) {
                return 2;
            }
            f.faults++;
            return 0;
        }
        if (v >= 1000 && v < 1000 + w.households.size()) {
            Household h = w.households.get((int) v - 1000);
            if (h.flat < 0) {
                return 2;
            }
            h.flat = -1;
            return 0;
        }
        if (v < 0 || v > 699 || noHousehold((int) v / 100) || noFlat((int) v % 100)) {
            return 1;
        }
        int h = (int) v / 100;
        int f = (int) v % 100;
        if (w.dweller(f) >= 0) {
            return 2;
        }
        if (!w.may.of(w, h, f)) {
            return 3;
        }
        w.households.get(h).flat = f;
        return 0;
    }

    private int single(long v) {
        World before = w.copy();
        int why = deed(v);
        if (why == 0) {
            remember(before);
        }
        return why;
    }

    public int draws(int n) {
        if (n < 0) {
            return -3;
        }
        int all = w.maps().size();
        if (all == 0) {
            return -5;
        }
        single(4000L + n);
        return n % all;
    }

    public int rings() {
        int[] before = w.homes();
        single(3000);
        int many = 0;
        for (int h = 0; h < before.length; h++) {
            many += before[h] != w.households.get(h).flat ? 1 : 0;
        }
        return many;
    }

    public int moves(int h, int f) {
        if (noHousehold(h) || noFlat(f)) {
            return -11;
        }
        int was = w.households.get(h).flat;
        int why = single(h * 100 + f);
        return why > 0 ? -10 - why : Math.abs((was < 0 ? 0 : w.flats.get(was).floor) - w.flats.get(f).floor);
    }

    public int leaves(int h) {
        if (noHousehold(h)) {
            return -11;
        }
        int was = w.households.get(h).flat;
        int why = single(1000 + h);
        return why > 0 ? -10 - why : was;
    }

    public int spoils(int f) {
        if (noFlat(f)) {
            return -11;
        }
        int why = single(2000 + f);
        return why > 0 ? -10 - why : w.flats.get(f).faults;
    }

    public int mends(int f) {
        if (noFlat(f)) {
            return -11;
        }
        int was = w.flats.get(f).faults;
        int why = single(2100 + f);
        return why > 0 ? -10 - why : was;
    }

    public int undo(int n) {
        if (n < 1 || n > past.size()) {
            return -3;
        }
        for (int i = 0; i < n; i++) {
            w = past.remove(past.size() - 1);
        }
        return past.size();
    }

    private boolean noTray(int t) {
        return t < 0 || t > 3;
    }

    public int judge(int tray, int what) {
        if (noTray(tray) || what < 0 || what > 3) {
            return -2;
        }
        if (trays[tray] == null) {
            return -6;
        }
        World keep = w.copy();
        int place = -1;
        int why = 0;
        for (int i = 0; i < trays[tray].length && why == 0; i++) {
            why = deed(trays[tray][i]) % 100;
            place = why == 0 ? -1 : i;
        }
        int quarter = w.quarter;
        int at = (int) w.households.stream().filter(h -> h.flat >= 0).count();
        w = keep;
        return what == 0 ? place : what == 1 ? why : what == 2 ? quarter : at;
    }

    public int perform(int tray) {
        if (noTray(tray)) {
            return -2;
        }
        if (trays[tray] == null) {
            return -6;
        }
        World before = w.copy();
        boolean some = false;
        int done = 0;
        for (long v : trays[tray]) {
            int why = deed(v);
            if (why % 100 != 0) {
                break;
            }
            done++;
            some |= why == 0;
        }
        if (some) {
            remember(before);
        }
        return done;
    }

    public int year(int seed, int times) {
        if (times < 1 || times > 30) {
            return -3;
        }
        if (w.flats.isEmpty() || w.households.isEmpty()) {
            return -5;
        }
        World before = w.copy();
        boolean some = false;
        int done = 0;
        int[] x = {seed};
        java.util.function.IntSupplier lot = () -> {
            x[0] = x[0] * 1103515245 + 12345;
            return x[0] >>> 16;
        };
        for (int i = 0; i < times; i++) {
            int kind = lot.getAsInt() % 5;
            long v;
            if (kind < 2) {
                v = 4000 + lot.getAsInt();
            } else if (kind == 2) {
                int h = lot.getAsInt() % w.households.size();
                v = h * 100 + lot.getAsInt() % w.flats.size();
            } else if (kind == 3) {
                v = 3000;
            } else {
                v = 2000 + lot.getAsInt() % w.flats.size();
            }
            int why = deed(v);
            done += why % 100 == 0 ? 1 : 0;
            some |= why == 0;
        }
        if (some) {
            remember(before);
        }
        return done;
    }

    public int maps() {
        return w.maps().size();
    }

    public int inMap(int n, int h) {
        if (noHousehold(h)) {
            return -2;
        }
        if (n < 0) {
            return -3;
        }
        List<int[]> maps = w.maps();
        return n >= maps.size() ? -1 : maps.get(n)[h];
    }

    public int with(int h, int f) {
        return noHousehold(h) || noFlat(f) ? -2 : (int) w.maps().stream().filter(m -> m[h] == f).count();
    }

    public int near(int a, int b) {
        if (noHousehold(a) || noHousehold(b) || a == b) {
            return -2;
        }
        return (int) w.maps().stream().filter(m -> w.above(m[a], m[b]) || w.above(m[b], m[a])).count();
    }

    public int allElse() {
        int many = 0;
        for (int[] m : w.maps()) {
            boolean all = true;
            for (int h = 0; h < m.length; h++) {
                all &= m[h] != w.households.get(h).flat;
            }
            many += all ? 1 : 0;
        }
        return many;
    }

    private int[] tally(List<int[]> maps, int h) {
        int[] many = new int[w.flats.size()];
        for (int[] m : maps) {
            many[m[h]]++;
        }
        return many;
    }

    public int likeliest(int h) {
        if (noHousehold(h)) {
            return -2;
        }
        List<int[]> maps = w.maps();
        if (maps.isEmpty()) {
            return -1;
        }
        int[] many = tally(maps, h);
        int at = 0;
        for (int f = 0; f < many.length; f++) {
            at = many[f] > many[at] ? f : at;
        }
        return at;
    }

    public int sure(int h, int what) {
        if (noHousehold(h) || what < 0 || what > 2) {
            return -2;
        }
        List<int[]> maps = w.maps();
        if (maps.isEmpty()) {
            return 0;
        }
        int[] many = tally(maps, h);
        int bits = 0;
        for (int f = 0; f < many.length; f++) {
            if (what == 0 && many[f] == maps.size() || what == 1 && many[f] > 0 || what == 2 && many[f] == 0) {
                bits |= 1 << f;
            }
        }
        return bits;
    }

    public int tooMany() {
        if (!w.maps().isEmpty()) {
            return 0;
        }
        int bits = 0;
        for (int gone = 0; gone < w.households.size(); gone++) {
            bits |= someWithout(gone, new int[w.households.size()], 0) ? 1 << gone : 0;
        }
        return bits;
    }

    private boolean someWithout(int gone, int[] map, int h) {
        if (h == map.length) {
            return true;
        }
        if (h == gone) {
            map[h] = -1;
            return someWithout(gone, map, h + 1);
        }
        for (int f = 0; f < w.flats.size(); f++) {
            boolean free = w.may.of(w, h, f);
            for (int k = 0; k < h; k++) {
                free &= map[k] != f;
            }
            map[h] = f;
            if (free && someWithout(gone, map, h + 1)) {
                return true;
            }
        }
        return false;
    }

    private static boolean badWhat(int what) {
        return what != 0 && (what < 10 || what > 16);
    }

    private int[] firstMost(java.util.function.ToLongFunction<int[]> good) {
        int[] first = null;
        long most = 0;
        for (int[] m : w.maps()) {
            long v = good.applyAsLong(m);
            if (first == null || v > most) {
                first = m;
                most = v;
            }
        }
        return first;
    }

    private int ofMap(int[] map, int what) {
        return map == null || noHousehold(what - 10) ? -1 : map[what - 10];
    }

    public int best(int what) {
        if (badWhat(what)) {
            return -2;
        }
        int[] map = firstMost(w::sumOf);
        return what > 0 ? ofMap(map, what) : map == null ? -2000000 : (int) w.sumOf(map);
    }

    public int fairest(int what) {
        if (badWhat(what)) {
            return -2;
        }
        int[] map = firstMost(w::leastOf);
        return what > 0 ? ofMap(map, what) : map == null ? -2000000 : map.length == 0 ? 0 : (int) w.leastOf(map);
    }

    public int stillest(int what) {
        if (badWhat(what)) {
            return -2;
        }
        int[] map = firstMost(m -> -w.harm(m));
        return what > 0 ? ofMap(map, what) : map == null ? -1 : w.harm(map);
    }

    public int bestMending() {
        if (w.maps().isEmpty()) {
            return -1;
        }
        long most = w.bestSum();
        int at = -1;
        for (int f = 0; f < w.flats.size(); f++) {
            World then = w.copy();
            then.flats.get(f).faults = 0;
            long sum = then.bestSum();
            if (sum > most) {
                most = sum;
                at = f;
            }
        }
        return at;
    }

    public int thisMap() {
        List<int[]> maps = w.maps();
        for (int n = 0; n < maps.size(); n++) {
            if (Arrays.equals(maps.get(n), w.homes())) {
                return n;
            }
        }
        return -1;
    }

    public int harm() {
        return w.harm(w.homes());
    }

    private boolean envious(int a, int b) {
        int own = w.households.get(a).flat;
        int other = w.households.get(b).flat;
        return own >= 0 && other >= 0 && w.may.of(w, a, other) && w.worth.of(w, a, other) > w.worth.of(w, a, own);
    }

    public int envies(int a) {
        if (noHousehold(a)) {
            return -2;
        }
        int bits = 0;
        for (int b = 0; b < w.households.size(); b++) {
            bits += envious(a, b) ? 1 << b : 0;
        }
        return bits;
    }

    public int wouldSwap() {
        for (int two = 0; two < 77; two++) {
            int a = two / 10;
            int b = two % 10;
            if (a < b && !noHousehold(a) && !noHousehold(b) && envious(a, b) && envious(b, a)) {
                return two;
            }
        }
        return -1;
    }

    /** All rings of a round at once: whoever comes back to itself by pointing. */
    private int[] ringsNow(int[] many) {
        int[] home = w.homes();
        int[] gets = home.clone();
        boolean[] in = new boolean[home.length];
        for (int h = 0; h < home.length; h++) {
            in[h] = home[h] >= 0;
        }
        while (true) {
            int[] to = new int[home.length];
            boolean any = false;
            for (int h = 0; h < home.length; h++) {
                if (in[h]) {
                    any = true;
                    to[h] = pointed(h, home, in);
                }
            }
            if (!any) {
                return gets;
            }
            boolean[] out = new boolean[home.length];
            for (int h = 0; h < home.length; h++) {
                if (!in[h]) {
                    continue;
                }
                int at = to[h];
                int least = Math.min(at, h);
                for (int step = 0; step < home.length && at != h; step++) {
                    at = to[at];
                    least = Math.min(least, at);
                }
                if (at == h) {
                    out[h] = true;
                    gets[h] = home[to[h]];
                    many[0] += least == h && to[h] != h ? 1 : 0;
                }
            }
            for (int h = 0; h < home.length; h++) {
                in[h] &= !out[h];
            }
        }
    }

    private int pointed(int h, int[] home, boolean[] in) {
        int to = h;
        for (int o = 0; o < home.length; o++) {
            if (in[o] && (o == h || w.may.of(w, h, home[o]))) {
                long better = w.worth.of(w, h, home[o]) - w.worth.of(w, h, home[to]);
                if (better > 0 || better == 0 && home[o] < home[to]) {
                    to = o;
                }
            }
        }
        return to;
    }

    public int byRings(int h) {
        return noHousehold(h) ? -2 : ringsNow(new int[1])[h];
    }

    public int ringsMany() {
        int[] many = new int[1];
        ringsNow(many);
        return many[0];
    }

    /** Where all are (a flat, or 50 for the store), and last the lift's floor; the first found at its end is the cheapest. */
    private int[] day(int[] map) {
        int[] first = Arrays.copyOf(w.homes(), map.length + 1);
        for (int h = 0; h < map.length; h++) {
            first[h] = first[h] < 0 ? 50 : first[h];
        }
        PriorityQueue<int[]> open = new PriorityQueue<>(Comparator.comparingInt(s -> s[s.length - 1]));
        Set<List<Integer>> closed = new java.util.HashSet<>();
        open.add(Arrays.copyOf(first, first.length + 1));
        while (!open.isEmpty()) {
            int[] s = open.poll();
            List<Integer> key = new ArrayList<>();
            boolean end = true;
            for (int i = 0; i <= map.length; i++) {
                key.add(s[i]);
                end &= i == map.length || s[i] == map[i];
            }
            if (end) {
                return new int[] {s[s.length - 1] / 1000, s[s.length - 1] % 1000};
            }
            if (!closed.add(key)) {
                continue;
            }
            for (int h = 0; h < map.length; h++) {
                if (s[h] == map[h]) {
                    continue;
                }
                boolean empty = true;
                for (int k = 0; k < map.length; k++) {
                    empty &= s[k] != map[h];
                }
                if (empty) {
                    open.add(trip(s, h, map[h]));
                }
                if (s[h] != 50) {
                    open.add(trip(s, h, 50));
                }
            }
        }
        throw new IllegalStateException("no way");
    }

    private int[] trip(int[] s, int h, int to) {
        int lift = s.length - 2;
        int[] t = s.clone();
        int from = floor(s[h]);
        t[h] = to;
        t[lift] = floor(to);
        t[lift + 1] += 1 + 1000 * (Math.abs(s[lift] - from) + Math.abs(from - floor(to)));
        return t;
    }

    private int floor(int place) {
        return place == 50 ? 0 : w.flats.get(place).floor;
    }

    public int moving(int n, int what) {
        if (what != 0 && what != 1) {
            return -2;
        }
        if (n < 0) {
            return -3;
        }
        List<int[]> maps = w.maps();
        return n >= maps.size() ? -1 : day(maps.get(n))[what];
    }

    public int nearest() {
        List<int[]> maps = w.maps();
        if (maps.size() > 100) {
            return -4;
        }
        int at = -1;
        int fewest = 0;
        for (int n = 0; n < maps.size(); n++) {
            int floors = day(maps.get(n))[0];
            if (at < 0 || floors < fewest) {
                at = n;
                fewest = floors;
            }
        }
        return at;
    }

    private int seenCode(int tray) {
        if (noTray(tray)) {
            return -2;
        }
        if (trays[tray] == null) {
            return -6;
        }
        if (trays[tray].length != w.flats.size()) {
            return -4;
        }
        for (long v : trays[tray]) {
            if (v != -1 && v != 99 && !(v >= 0 && v < w.households.size())) {
                return -3;
            }
        }
        return 0;
    }

    private static int who(int[] map, int f) {
        for (int h = 0; h < map.length; h++) {
            if (map[h] == f) {
                return h;
            }
        }
        return 99;
    }

    private List<int[]> seenMaps(int tray) {
        List<int[]> out = new ArrayList<>();
        for (int[] m : w.maps()) {
            boolean so = true;
            for (int f = 0; f < w.flats.size(); f++) {
                so &= trays[tray][f] == -1 || trays[tray][f] == who(m, f);
            }
            if (so) {
                out.add(m);
            }
        }
        return out;
    }

    public int seen(int tray) {
        int code = seenCode(tray);
        return code < 0 ? code : seenMaps(tray).size();
    }

    public int had(int tray, int h) {
        if (noTray(tray) || noHousehold(h)) {
            return -2;
        }
        int code = seenCode(tray);
        if (code < 0) {
            return code;
        }
        List<int[]> maps = seenMaps(tray);
        if (maps.isEmpty() || maps.stream().anyMatch(m -> m[h] != maps.get(0)[h])) {
            return -1;
        }
        return maps.get(0)[h];
    }

    public int wall(int tray) {
        int code = seenCode(tray);
        if (code < 0) {
            return code;
        }
        List<int[]> maps = seenMaps(tray);
        int at = -1;
        int least = 0;
        for (int f = 0; f < w.flats.size() && !maps.isEmpty(); f++) {
            if (trays[tray][f] != -1) {
                continue;
            }
            int[] many = new int[100];
            for (int[] m : maps) {
                many[who(m, f)]++;
            }
            int most = Arrays.stream(many).max().getAsInt();
            if (at < 0 || most < least) {
                at = f;
                least = most;
            }
        }
        return at;
    }

    public int numbers(int tray, int sort, int n) {
        if (noTray(tray) || sort < 0 || sort > 3) {
            return -2;
        }
        if (n < 0 || n > 40) {
            return -3;
        }
        trays[tray] = new long[n];
        sorts[tray] = sort;
        return 0;
    }

    public long write(int tray, int i, long v) {
        if (noTray(tray)) {
            return -2;
        }
        if (trays[tray] == null) {
            return -6;
        }
        if (i < 0 || i >= trays[tray].length) {
            return -7;
        }
        int bits = 8 << sorts[tray];
        trays[tray][i] = v << 64 - bits >> 64 - bits;
        return trays[tray][i];
    }

    public int lists(int tray) {
        if (noTray(tray)) {
            return -2;
        }
        if (trays[tray] == null) {
            return -6;
        }
        int many = Math.min(trays[tray].length, w.flats.size());
        for (int f = 0; f < many; f++) {
            trays[tray][f] = w.dweller(f) < 0 ? 99 : w.dweller(f);
        }
        return many;
    }

    public int image(int i) {
        if (i != 0 && i != 1) {
            return -2;
        }
        images[i] = w.copy();
        return 0;
    }

    public int restore(int i) {
        if (i != 0 && i != 1) {
            return -2;
        }
        if (images[i] == null) {
            return -5;
        }
        w = images[i].copy();
        past.clear();
        return 0;
    }

    public int count(int what) {
        int away = (int) w.households.stream().filter(h -> h.flat < 0).count();
        return switch (what) {
            case 0 -> w.flats.size();
            case 1 -> w.households.size();
            case 2 -> away;
            case 3 -> w.quarter;
            case 4 -> w.flats.size() - w.households.size() + away;
            case 5 -> w.flats.stream().mapToInt(f -> f.faults).sum();
            case 6 -> past.size();
            case 7 -> tape.length();
            case 8 -> w.lines;
            default -> -1;
        };
    }
}
