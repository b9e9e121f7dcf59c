import java.lang.reflect.Method;
import java.util.ArrayList;
import java.util.Arrays;
import java.util.Comparator;
import java.util.List;
import java.util.Random;

/** Runs of random calls, the same on FloorsByLot and on the Oracle; the first answer that differs ends a run. */
public final class RandomRunsTest {
    private static final String[] NAMES = {
        "floor", "column", "size", "light", "faults", "people", "noise", "ears", "stairs", "age", "was", "times", "quarter"
    };
    private static final String[] TOKENS = {
        "flat", "household", "lives", "may", "worth", "quarter", "size", "light", "faults", "noise", "ears", "stairs", "age",
        "not", "and", "or", "was", "times", "floor", "people", "attic", ";", ":", "+", "-", "*", "(", ")", "[", "]", "=", "<",
        ">", "0", "1", "7", "10", "99", "100", "999", "1000", "007", "0000", ",", "A", "\n", "\t", "  "
    };
    private static final String[] EASY = {
        "size > people - 1", "floor < 3", "not faults > 4", "age < 60 or floor < 2", "noise < 50", "1 = 1", "was = 0", "times < 3"
    };
    private final Random lot;
    private final FloorsByLot own = new FloorsByLot();
    private final Oracle oracle = new Oracle();
    private final List<String> log = new ArrayList<>();
    private int flats = 0;
    private int households = 0;
    private static final Method[] METHODS = methods();

    private RandomRunsTest(long seed) {
        lot = new Random(seed);
    }

    public static void main(String[] args) throws Exception {
        int runs = args.length > 0 ? Integer.parseInt(args[0]) : 400;
        int from = args.length > 1 ? Integer.parseInt(args[1]) : 0;
        int wrong = 0;
        for (int run = from; run < from + runs && wrong < 5; run++) {
            RandomRunsTest test = new RandomRunsTest(run);
            if (!(run % 4 == 3 ? test.runTexts() : test.runCalls(run % 5 == 0 ? 8 : 5))) {
                wrong++;
                System.out.println("run " + run + " goes wrong; its last calls:");
                test.log.subList(Math.max(0, test.log.size() - 12), test.log.size()).forEach(l -> System.out.println("  " + l));
            }
        }
        System.out.println(wrong == 0 ? "all " + runs + " runs are as due" : wrong + " runs are not as due");
        if (wrong != 0) {
            System.exit(1);
        }
    }

    private static Method[] methods() {
        Method[] all = Arrays.stream(FloorsByLot.class.getDeclaredMethods())
            .filter(m -> java.lang.reflect.Modifier.isPublic(m.getModifiers())).toArray(Method[]::new);
        Arrays.sort(all, Comparator.comparing(Method::getName));
        return all;
    }

    private boolean same(String name, Object... args) throws Exception {
        for (Method m : METHODS) {
            if (m.getName().equals(name)) {
                long got = ((Number) m.invoke(own, args)).longValue();
                long due = ((Number) Oracle.class.getMethod(name, m.getParameterTypes()).invoke(oracle, args)).longValue();
                log.add(name + Arrays.toString(args) + " answered " + got + ", due is " + due);
                return got == due;
            }
        }
        throw new IllegalStateException(name);
    }

    private boolean feed(String text) throws Exception {
        log.add("text: " + text);
        java.nio.ByteBuffer four = Told.inTwenties(text);
        while (four.hasRemaining()) {
            if (!same("feed", four.getInt(), four.getInt(), four.getInt(), four.getInt(), four.getInt())) {
                return false;
            }
        }
        return true;
    }

    private boolean tower(String text) throws Exception {
        return feed(text) && same("tower", Math.min(900, text.length())) && same("fault", 0) && same("fault", 1)
            && same("count", 8) && same("count", 7);
    }

    private boolean runTexts() throws Exception {
        for (int n = 0; n < 40; n++) {
            String text = towerText(1 + lot.nextInt(8));
            int changes = lot.nextInt(3);
            for (int c = 0; c < changes && text.length() > 2; c++) {
                int at = lot.nextInt(text.length());
                String token = TOKENS[lot.nextInt(TOKENS.length)];
                text = switch (lot.nextInt(8)) {
                    case 3, 4 -> otherNumber(text, at);
                    case 5 -> lineAgain(text, at);
                    case 6 -> text.replaceFirst("\\(", "((").replaceFirst("\\)", "))");
                    case 0 -> text.substring(0, at) + token + text.substring(at);
                    case 1 -> text.substring(0, at) + " " + token + " " + text.substring(at);
                    case 2 -> text.substring(0, at) + text.substring(at + 1);
                    default -> text.substring(0, at);
                };
            }
            if (text.length() > 900) {
                text = text.substring(0, 900);
            }
            if (!tower(text) || !same("tower", 1) || !same("tower", -1) || !same("maps") || !same("count", lot.nextInt(10))) {
                return false;
            }
        }
        return true;
    }

    private String otherNumber(String text, int from) {
        int at = from;
        while (at < text.length() && !Character.isDigit(text.charAt(at))) {
            at++;
        }
        return at == text.length() ? text : text.substring(0, at) + lot.nextInt(120) + text.substring(at + 1);
    }

    private String lineAgain(String text, int from) {
        int end = text.indexOf(';', from) + 1;
        int start = text.lastIndexOf(';', from) + 1;
        return end <= start ? text : text.substring(0, end) + text.substring(start, end).repeat(lot.nextInt(2) + 1) + text.substring(end);
    }

    private boolean runCalls(int most) throws Exception {
        for (int n = 0; n < 330; n++) {
            if (n % 110 == 0) {
                String text = towerText(most);
                if (text.length() > 900) {
                    text = text.substring(0, 900);
                }
                if (!tower(text)) {
                    return false;
                }
                flats = own.count(0);
                households = own.count(1);
            }
            if (!oneCall()) {
                return false;
            }
        }
        return true;
    }

    private boolean oneCall() throws Exception {
        int dice = lot.nextInt(100);
        if (dice < 8) {
            return fillTrayWithDeeds();
        }
        if (dice < 16) {
            return fillTrayWithWalls();
        }
        if (dice < 26) {
            String[] deeds = {"draws", "moves", "leaves", "spoils", "mends", "rings", "year", "undo", "perform"};
            String name = deeds[lot.nextInt(deeds.length)];
            return call(name) && same("count", 6) && same("count", 3) && same("thisMap");
        }
        if (dice == 26) {
            boolean good = call("image") && call("restore");
            flats = own.count(0);
            households = own.count(1);
            return good;
        }
        Method m = METHODS[lot.nextInt(METHODS.length)];
        if (m.getName().equals("feed") || m.getName().equals("tower") || m.getName().equals("restore")) {
            return same("fault", 0);
        }
        return call(m.getName());
    }

    private boolean fillTrayWithDeeds() throws Exception {
        int tray = lot.nextInt(4);
        int n = lot.nextInt(9);
        boolean good = same("numbers", tray, 1 + lot.nextInt(3), n);
        for (int i = 0; i < n && good; i++) {
            long v = switch (lot.nextInt(9)) {
                case 0, 1 -> lot.nextInt(households + 1) * 100 + lot.nextInt(flats + 1);
                case 2 -> 1000 + lot.nextInt(households + 1);
                case 3 -> 2000 + lot.nextInt(flats + 1);
                case 4 -> 2100 + lot.nextInt(flats + 1);
                case 5 -> 3000;
                case 6 -> 4000 + lot.nextInt(30000);
                case 7 -> lot.nextInt(4) == 0 ? lot.nextLong() : 3000;
                default -> lot.nextInt(8) == 0 ? lot.nextInt(4100) - 50 : 4000 + lot.nextInt(50);
            };
            good = same("write", tray, i, v);
        }
        for (int what = 0; what < 4 && good; what++) {
            good = same("judge", tray, what);
        }
        return good && (lot.nextInt(2) == 0 || same("perform", tray) && same("count", 6) && same("count", 3));
    }

    private boolean fillTrayWithWalls() throws Exception {
        int tray = lot.nextInt(4);
        int n = lot.nextInt(12) == 0 ? lot.nextInt(9) : flats;
        boolean good = same("numbers", tray, lot.nextInt(4), n);
        int[] map = new int[households];
        int maps = own.maps();
        int number = maps > 0 ? lot.nextInt(maps) : 0;
        for (int h = 0; h < households; h++) {
            map[h] = own.inMap(number, h);
        }
        for (int f = 0; f < n && good; f++) {
            long v = -1;
            if (lot.nextInt(3) == 0) {
                v = 99;
                for (int h = 0; h < households; h++) {
                    v = map[h] == f ? h : v;
                }
            }
            v = lot.nextInt(25) == 0 ? lot.nextInt(10) - 2 : v;
            good = same("write", tray, f, v);
        }
        good = good && same("seen", tray) && same("wall", tray);
        for (int h = 0; h < households && good; h++) {
            good = same("had", tray, h);
        }
        return good && (lot.nextInt(4) != 0 || same("lists", tray) && same("seen", tray) && same("wall", tray));
    }

    private int near(int bound) {
        return lot.nextInt(12) == 0 ? lot.nextInt(5) == 0 ? lot.nextInt() : lot.nextInt(bound + 4) - 2 : lot.nextInt(Math.max(1, bound));
    }

    private boolean call(String name) throws Exception {
        switch (name) {
            case "flat":
                return same(name, near(flats), near(6));
            case "household":
                return same(name, near(households), near(6));
            case "times": case "may": case "worth": case "moves": case "with":
                return same(name, near(households), near(flats));
            case "inMap":
                return same(name, near(Math.max(1, own.maps())), near(households));
            case "near":
                return same(name, near(households), near(households));
            case "leaves": case "likeliest": case "envies": case "byRings":
                return same(name, near(households));
            case "spoils": case "mends":
                return same(name, near(flats));
            case "sure":
                return same(name, near(households), near(3));
            case "best": case "fairest": case "stillest":
                return same(name, lot.nextInt(3) == 0 ? 0 : lot.nextInt(9) == 0 ? near(20) : 10 + lot.nextInt(7));
            case "moving": {
                int n = near(Math.max(1, own.maps()));
                return same(name, n, near(2)) && same(name, n, 0) && same(name, n, 1);
            }
            case "had": case "judge":
                return same(name, near(4), near(4));
            case "undo":
                return same(name, lot.nextInt(3) == 0 ? near(11) : 1);
            case "count":
                return same(name, near(9));
            case "year":
                return same(name, lot.nextInt(), near(31));
            case "numbers":
                return same(name, near(4), near(4), near(41));
            case "write":
                return same(name, near(4), near(9), lot.nextLong() >> lot.nextInt(64));
            case "draws":
                return same(name, near(50000));
            default:
                break;
        }
        for (Method m : METHODS) {
            if (m.getName().equals(name)) {
                return m.getParameterCount() == 0 ? same(name) : same(name, near(4));
            }
        }
        throw new IllegalStateException(name);
    }

    private String blank() {
        return lot.nextInt(6) == 0 ? "\n " : " ";
    }

    private String towerText(int most) {
        StringBuilder s = new StringBuilder();
        int many = lot.nextInt(20) == 0 ? 0 : 1 + lot.nextInt(most);
        List<Integer> places = new ArrayList<>();
        int columns = 1 + lot.nextInt(4);
        int floors = lot.nextInt(3) == 0 ? 10 : Math.max(3, (most + columns - 1) / columns);
        for (int p = 0; p < columns * floors; p++) {
            places.add(p);
        }
        java.util.Collections.shuffle(places, lot);
        many = Math.min(many, places.size());
        for (int f = 0; f < many; f++) {
            s.append("flat ").append(places.get(f) / columns).append(blank()).append(places.get(f) % columns).append(" size ").append(1 + lot.nextInt(5));
            for (int k = lot.nextInt(3); k > 0; k--) {
                s.append(blank()).append(lot.nextBoolean() ? "light " : "faults ").append(lot.nextInt(10));
            }
            s.append(";");
        }
        int people = lot.nextInt(20) == 0 ? 0 : 1 + lot.nextInt(Math.min(7, Math.max(1, many + (lot.nextInt(6) == 0 ? 1 : 0))));
        for (int h = 0; h < people; h++) {
            s.append("household ").append(1 + lot.nextInt(4));
            for (int k = lot.nextInt(6); k > 0; k--) {
                s.append(blank()).append(NAMES[6 + lot.nextInt(4)]).append(" ").append(lot.nextInt(lot.nextBoolean() ? 100 : 4));
            }
            s.append(" ;");
        }
        List<Integer> homes = new ArrayList<>();
        for (int f = 0; f < many; f++) {
            homes.add(f);
        }
        java.util.Collections.shuffle(homes, lot);
        int away = lot.nextInt(4);
        for (int h = 0; h < people && h < many; h++) {
            if (lot.nextInt(4) >= away) {
                s.append("lives ").append(h).append(blank()).append(homes.get(h)).append(";");
            }
        }
        if (lot.nextInt(3) == 0) {
            s.append("may:").append(blank()).append(truth(0)).append(";");
        } else if (lot.nextInt(2) == 0) {
            s.append("may: ").append(unlikeTastes()).append(" > ").append(lot.nextInt(200) - 200 < -100 ? "0 - 90" : "0").append(" or ")
                .append(EASY[lot.nextInt(EASY.length)]).append(";");
        }
        if (lot.nextInt(3) == 0) {
            s.append("worth : ").append(sum(0)).append(";");
        } else if (lot.nextInt(8) > 0) {
            s.append("worth : ").append(unlikeTastes()).append(lot.nextInt(3) == 0 ? " - faults * 5" : "").append(";");
        }
        if (lot.nextBoolean()) {
            s.append("quarter ").append(lot.nextInt(3) == 0 ? 995 + lot.nextInt(5) : lot.nextInt(9)).append(";");
        }
        if (lot.nextInt(5) == 0) {
            s.append("may: size + 1 > people or ").append(truth(0)).append(blank()).append(";");
        }
        return s.toString();
    }

    private String truth(int depth) {
        StringBuilder s = new StringBuilder(unit(depth));
        for (int k = lot.nextInt(3); k > 0; k--) {
            s.append(lot.nextInt(3) > 0 ? " or " : " and ").append(unit(depth));
        }
        return s.toString();
    }

    private String unit(int depth) {
        int kind = depth > 4 ? 9 : lot.nextInt(10);
        if (kind == 0) {
            return "not " + unit(depth + 1);
        }
        if (kind == 1) {
            return "[" + truth(depth + 1) + "]";
        }
        if (kind < 5) {
            return EASY[lot.nextInt(EASY.length)];
        }
        return sum(depth) + blank() + "=<>".charAt(lot.nextInt(3)) + sum(depth);
    }

    /** A sum that puts flats in another order for each household. */
    private String unlikeTastes() {
        return "(floor * " + lot.nextInt(20) + " - column * " + lot.nextInt(30) + " + " + lot.nextInt(9) + ") * (people * "
            + lot.nextInt(9) + " - " + NAMES[6 + lot.nextInt(4)] + " + " + lot.nextInt(5) + ") + size * " + NAMES[6 + lot.nextInt(4)];
    }

    private String sum(int depth) {
        StringBuilder s = new StringBuilder(atom(depth));
        for (int k = lot.nextInt(5); k > 0; k--) {
            s.append(blank()).append("+-*".charAt(lot.nextInt(3))).append(" ").append(atom(depth));
        }
        return s.toString();
    }

    private String atom(int depth) {
        int kind = lot.nextInt(8);
        if (kind == 0 && depth < 7) {
            return "(" + sum(depth + 1) + ")";
        }
        return kind < 3 ? String.valueOf(lot.nextInt(lot.nextInt(4) == 0 ? 1000 : 6)) : NAMES[lot.nextInt(NAMES.length)];
    }
}
