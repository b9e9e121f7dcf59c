import java.util.Arrays;

/** A tower's flats shared out by lot, as ../shared/DOC.md tells; README.md says how to use it. */
public final class FloorsByLot {
    /** There is none. */
    public static final int NONE = -1;

    private static final int NO_SUCH = -2;
    private static final int BAD_NUMBER = -3;
    private static final int TOO_MANY = -4;
    private static final int NOT_NOW = -5;
    private static final int TRAY_MISSING = -6;
    private static final int NO_PLACE = -7;
    private static final int NO_SUCH_THING = -8;
    private static final int WHY_NOT = -10;
    private static final int TEXT_FAULT = -30;
    private static final int NO_WORTH = -2_000_000;

    private static final int MAX_TEXT = 900;
    private static final int MAX_FLATS = 8;
    private static final int MAX_HOUSEHOLDS = 7;
    private static final int PAIRS = MAX_FLATS * MAX_HOUSEHOLDS;
    private static final int FLAT_SETS = 1 << MAX_FLATS;
    private static final int FLOORS = 10;
    private static final int TRAYS = 4;
    private static final int TRAY_PLACES = 40;
    private static final int SORTS = 4;
    private static final int IMAGES = 2;
    private static final int MOST_UNDONE = 10;
    private static final int MOST_TIMES = 30;
    private static final int MOST_MAPS_COMPARED = 100;
    private static final int NOBODY = 99;
    private static final int OF_HOUSEHOLD = 10;

    private static final int FEATURES = 4;
    private static final int FLOOR = 0;
    private static final int COLUMN = 1;
    private static final int SIZE = 2;
    private static final int LIGHT = 3;
    private static final int TRAITS = 5;
    private static final int PEOPLE = 0;
    private static final int NOISE = 1;
    private static final int EARS = 2;

    private final byte[] tape = new byte[MAX_TEXT];
    private int tapeLength = 0;
    private final House house = new House();
    private final Reader reader = new Reader();
    private final Table table = new Table(house);
    private final Maps chart = new Maps();
    private final Rings ringed = new Rings(house, table);
    private final Quiet quiet = new Quiet(house);
    private final Lift lift = new Lift(house);
    private final Deeds deeds = new Deeds(house, table, chart, ringed);
    private final History history = new History();
    private final Living before = new Living();
    private final Tray[] trays = new Tray[TRAYS];
    private final House[] kept = new House[IMAGES];
    private final int[] rows = new int[MAX_HOUSEHOLDS];
    private final int[] picked = new int[MAX_HOUSEHOLDS];
    private int nearestMap = NONE;
    private int nearestChange = NONE;

    public FloorsByLot() {
        for (int t = 0; t < TRAYS; t++) {
            trays[t] = new Tray();
        }
    }

    // ---- the tower

    public int feed(int a, int b, int c, int d, int e) {
        if (tapeLength + 20 > MAX_TEXT) {
            return NOT_NOW;
        }
        feedInt(a);
        feedInt(b);
        feedInt(c);
        feedInt(d);
        feedInt(e);
        return tapeLength;
    }

    private void feedInt(int four) {
        for (int shift = 24; shift >= 0 && tapeLength < MAX_TEXT; shift -= 8) {
            tape[tapeLength] = (byte) (four >> shift);
            tapeLength++;
        }
    }

    public int tower(int n) {
        if (n < 0 || n > tapeLength) {
            return BAD_NUMBER;
        }
        tapeLength = 0;
        if (!reader.readAll(tape, n)) {
            return TEXT_FAULT - reader.fault;
        }
        house.copyFrom(reader.told);
        history.forget();
        return house.lines;
    }

    public int fault(int what) {
        switch (what) {
            case 0:
                return reader.fault;
            case 1:
                return reader.faultPlace;
            default:
                return NONE;
        }
    }

    public int flat(int f, int what) {
        if (!isFlat(f) || what < 0 || what > FEATURES + 1) {
            return NO_SUCH_THING;
        }
        if (what < FEATURES) {
            return house.feature(f, what);
        }
        return what == FEATURES ? house.living.faults[f] : house.dwellerOf(f);
    }

    public int household(int h, int what) {
        if (!isHousehold(h) || what < 0 || what > TRAITS) {
            return NO_SUCH_THING;
        }
        return what < TRAITS ? house.trait(h, what) : house.living.home[h];
    }

    public int times(int h, int f) {
        return isPair(h, f) ? house.living.drawn[h * MAX_FLATS + f] : NO_SUCH;
    }

    public int may(int h, int f) {
        if (!isPair(h, f)) {
            return NO_SUCH;
        }
        table.refresh();
        return table.permits(h, f) ? 1 : 0;
    }

    public int worth(int h, int f) {
        if (!isPair(h, f)) {
            return NO_WORTH;
        }
        table.refresh();
        return table.worths[h * MAX_FLATS + f];
    }

    private boolean isFlat(int f) {
        return f >= 0 && f < house.flats;
    }

    private boolean isHousehold(int h) {
        return h >= 0 && h < house.households;
    }

    private boolean isPair(int h, int f) {
        return isHousehold(h) && isFlat(f);
    }

    // ---- deeds

    public int draws(int n) {
        if (n < 0) {
            return BAD_NUMBER;
        }
        before.copyFrom(house.living);
        if (deeds.draw(n) != Deeds.DONE) {
            return NOT_NOW;
        }
        history.keep(before);
        return deeds.drawnMap;
    }

    public int rings() {
        before.copyFrom(house.living);
        deeds.swapByRings();
        if (ringed.moved > 0) {
            history.keep(before);
        }
        return ringed.moved;
    }

    public int moves(int h, int f) {
        before.copyFrom(house.living);
        int why = deeds.settle(h, f);
        if (why != Deeds.DONE) {
            return WHY_NOT - why;
        }
        history.keep(before);
        int from = before.home[h];
        int startFloor = from == NONE ? 0 : house.feature(from, FLOOR);
        return Math.abs(house.feature(f, FLOOR) - startFloor);
    }

    public int leaves(int h) {
        before.copyFrom(house.living);
        int why = deeds.depart(h);
        if (why != Deeds.DONE) {
            return WHY_NOT - why;
        }
        history.keep(before);
        return before.home[h];
    }

    public int spoils(int f) {
        before.copyFrom(house.living);
        int why = deeds.spoil(f);
        if (why != Deeds.DONE) {
            return WHY_NOT - why;
        }
        history.keep(before);
        return house.living.faults[f];
    }

    public int mends(int f) {
        before.copyFrom(house.living);
        int why = deeds.mend(f);
        if (why != Deeds.DONE) {
            return WHY_NOT - why;
        }
        history.keep(before);
        return before.faults[f];
    }

    public int undo(int n) {
        if (n < 1 || n > history.length) {
            return BAD_NUMBER;
        }
        house.liveAs(history.takeBack(n));
        return history.length;
    }

    public int judge(int tray, int what) {
        if (!isTray(tray) || what < 0 || what > 3) {
            return NO_SUCH;
        }
        if (trays[tray].isMissing()) {
            return TRAY_MISSING;
        }
        before.copyFrom(house.living);
        int done = deeds.doAll(trays[tray]);
        int answer = judged(what, done);
        house.liveAs(before);
        return answer;
    }

    private int judged(int what, int done) {
        switch (what) {
            case 0:
                return deeds.why == Deeds.DONE ? NONE : done;
            case 1:
                return deeds.why;
            case 2:
                return house.living.quarter;
            default:
                return house.households - house.awayMany();
        }
    }

    public int perform(int tray) {
        int code = trayCode(tray);
        if (code != 0) {
            return code;
        }
        before.copyFrom(house.living);
        int done = deeds.doAll(trays[tray]);
        keepIfSome();
        return done;
    }

    public int year(int seed, int times) {
        if (times < 1 || times > MOST_TIMES) {
            return BAD_NUMBER;
        }
        if (house.flats == 0 || house.households == 0) {
            return NOT_NOW;
        }
        before.copyFrom(house.living);
        int done = deeds.doYear(seed, times);
        keepIfSome();
        return done;
    }

    private void keepIfSome() {
        if (deeds.some) {
            history.keep(before);
        }
    }

    // ---- maps

    public int maps() {
        return tallyAll();
    }

    public int inMap(int n, int h) {
        if (!isHousehold(h)) {
            return NO_SUCH;
        }
        if (n < 0) {
            return BAD_NUMBER;
        }
        if (n >= tallyAll()) {
            return NONE;
        }
        chart.find(n, picked);
        return picked[h];
    }

    public int with(int h, int f) {
        if (!isPair(h, f)) {
            return NO_SUCH;
        }
        copyRows();
        rows[h] &= 1 << f;
        return tallyRows();
    }

    public int near(int a, int b) {
        if (!isHousehold(a) || !isHousehold(b) || a == b) {
            return NO_SUCH;
        }
        int sum = 0;
        for (int upper = 0; upper < house.flats; upper++) {
            int lower = house.flatBelow(upper);
            if (lower != NONE) {
                sum += mapsWithBoth(a, upper, b, lower) + mapsWithBoth(b, upper, a, lower);
            }
        }
        return sum;
    }

    private int mapsWithBoth(int a, int flatOfA, int b, int flatOfB) {
        copyRows();
        rows[a] &= 1 << flatOfA;
        rows[b] &= 1 << flatOfB;
        return tallyRows();
    }

    public int allElse() {
        copyRows();
        for (int h = 0; h < house.households; h++) {
            int own = house.living.home[h];
            if (own != NONE) {
                rows[h] &= ~(1 << own);
            }
        }
        return tallyRows();
    }

    public int likeliest(int h) {
        if (!isHousehold(h)) {
            return NO_SUCH;
        }
        tallyAll();
        chart.tallyEach();
        int likely = NONE;
        int most = 0;
        for (int f = 0; f < house.flats; f++) {
            int many = chart.having[h * MAX_FLATS + f];
            if (many > most) {
                most = many;
                likely = f;
            }
        }
        return likely;
    }

    public int sure(int h, int what) {
        if (!isHousehold(h) || what < 0 || what > 2) {
            return NO_SUCH;
        }
        int all = tallyAll();
        if (all == 0) {
            return 0;
        }
        chart.tallyEach();
        int bits = 0;
        for (int f = 0; f < house.flats; f++) {
            int many = chart.having[h * MAX_FLATS + f];
            boolean asked = what == 0 ? many == all : what == 1 ? many > 0 : many == 0;
            bits |= asked ? 1 << f : 0;
        }
        return bits;
    }

    public int tooMany() {
        if (tallyAll() > 0) {
            return 0;
        }
        int bits = 0;
        for (int gone = 0; gone < house.households; gone++) {
            copyRows();
            for (int h = gone; h + 1 < house.households; h++) {
                rows[h] = rows[h + 1];
            }
            if (chart.tally(rows, house.households - 1, house.flats) > 0) {
                bits |= 1 << gone;
            }
        }
        return bits;
    }

    private int tallyAll() {
        table.refresh();
        return chart.tally(table.allowed, house.households, house.flats);
    }

    private void copyRows() {
        table.refresh();
        System.arraycopy(table.allowed, 0, rows, 0, MAX_HOUSEHOLDS);
    }

    private int tallyRows() {
        return chart.tally(rows, house.households, house.flats);
    }

    // ---- the best maps

    public int best(int what) {
        if (!asksOfMap(what)) {
            return NO_SUCH;
        }
        if (tallyAll() == 0) {
            return what == 0 ? NO_WORTH : NONE;
        }
        int sum = chart.mostInSum(table.worths);
        if (what == 0) {
            return sum;
        }
        chart.pickMostInSum(table.worths, picked);
        return pickedFlat(what);
    }

    public int fairest(int what) {
        if (!asksOfMap(what)) {
            return NO_SUCH;
        }
        if (tallyAll() == 0) {
            return what == 0 ? NO_WORTH : NONE;
        }
        if (house.households == 0) {
            return what == 0 ? 0 : NONE;
        }
        int least = chart.greatestLeast(table.worths);
        if (what == 0) {
            return least;
        }
        keepRowsOfWorth(least);
        tallyRows();
        chart.find(0, picked);
        return pickedFlat(what);
    }

    private void keepRowsOfWorth(int least) {
        copyRows();
        for (int h = 0; h < house.households; h++) {
            for (int f = 0; f < house.flats; f++) {
                if (table.worths[h * MAX_FLATS + f] < least) {
                    rows[h] &= ~(1 << f);
                }
            }
        }
    }

    public int stillest(int what) {
        if (!asksOfMap(what)) {
            return NO_SUCH;
        }
        if (tallyAll() == 0) {
            return NONE;
        }
        quiet.search(chart);
        if (what == 0) {
            return quiet.least;
        }
        System.arraycopy(quiet.chosen, 0, picked, 0, MAX_HOUSEHOLDS);
        return pickedFlat(what);
    }

    private static boolean asksOfMap(int what) {
        return what == 0 || what >= OF_HOUSEHOLD && what < OF_HOUSEHOLD + MAX_HOUSEHOLDS;
    }

    private int pickedFlat(int what) {
        int h = what - OF_HOUSEHOLD;
        return isHousehold(h) ? picked[h] : NONE;
    }

    public int bestMending() {
        if (tallyAll() == 0) {
            return NONE;
        }
        int most = chart.mostInSum(table.worths);
        int mended = NONE;
        for (int f = 0; f < house.flats; f++) {
            int many = house.living.faults[f];
            house.setFaults(f, 0);
            if (tallyAll() > 0) {
                int sum = chart.mostInSum(table.worths);
                if (sum > most) {
                    most = sum;
                    mended = f;
                }
            }
            house.setFaults(f, many);
        }
        return mended;
    }

    public int thisMap() {
        tallyAll();
        for (int h = 0; h < house.households; h++) {
            int own = house.living.home[h];
            if (own == NONE || !table.permits(h, own)) {
                return NONE;
            }
        }
        return chart.numberOf(house.living.home);
    }

    // ---- as they live

    public int harm() {
        return quiet.harmNow();
    }

    public int envies(int a) {
        if (!isHousehold(a)) {
            return NO_SUCH;
        }
        table.refresh();
        int bits = 0;
        for (int b = 0; b < house.households; b++) {
            bits |= table.isEnvious(a, b) ? 1 << b : 0;
        }
        return bits;
    }

    public int wouldSwap() {
        table.refresh();
        for (int a = 0; a < house.households; a++) {
            for (int b = a + 1; b < house.households; b++) {
                if (table.isEnvious(a, b) && table.isEnvious(b, a)) {
                    return 10 * a + b;
                }
            }
        }
        return NONE;
    }

    public int byRings(int h) {
        if (!isHousehold(h)) {
            return NO_SUCH;
        }
        table.refresh();
        ringed.turn();
        return ringed.gets[h];
    }

    public int ringsMany() {
        table.refresh();
        ringed.turn();
        return ringed.many;
    }

    // ---- moving day

    public int moving(int n, int what) {
        if (what < 0 || what > 1) {
            return NO_SUCH;
        }
        if (n < 0) {
            return BAD_NUMBER;
        }
        if (n >= tallyAll()) {
            return NONE;
        }
        chart.find(n, picked);
        int cost = lift.cheapest(picked, Lift.NO_LIMIT);
        return what == 0 ? cost / Lift.ONE_FLOOR : cost % Lift.ONE_FLOOR;
    }

    public int nearest() {
        int all = tallyAll();
        if (all > MOST_MAPS_COMPARED) {
            return TOO_MANY;
        }
        if (nearestChange != house.change) {
            nearestMap = seekNearest(all);
            nearestChange = house.change;
        }
        return nearestMap;
    }

    private int seekNearest(int all) {
        int first = NONE;
        int fewest = Lift.NO_LIMIT;
        for (int n = 0; n < all && fewest > 0; n++) {
            chart.find(n, picked);
            int gone = lift.cheapest(picked, fewest) / Lift.ONE_FLOOR;
            if (gone < fewest) {
                fewest = gone;
                first = n;
            }
        }
        return first;
    }

    // ---- who lived where

    public int seen(int tray) {
        int code = seenCode(tray);
        return code != 0 ? code : tallySeen(trays[tray]);
    }

    public int had(int tray, int h) {
        if (!isTray(tray) || !isHousehold(h)) {
            return NO_SUCH;
        }
        int code = seenCode(tray);
        if (code != 0) {
            return code;
        }
        int all = tallySeen(trays[tray]);
        if (all == 0) {
            return NONE;
        }
        chart.tallyEach();
        for (int f = 0; f < house.flats; f++) {
            if (chart.having[h * MAX_FLATS + f] == all) {
                return f;
            }
        }
        return NONE;
    }

    public int wall(int tray) {
        int code = seenCode(tray);
        if (code != 0) {
            return code;
        }
        int all = tallySeen(trays[tray]);
        if (all == 0) {
            return NONE;
        }
        chart.tallyEach();
        int telling = NONE;
        int least = all + 1;
        for (int f = 0; f < house.flats; f++) {
            int frequent = mostFrequent(f, all);
            if (trays[tray].places[f] == NONE && frequent < least) {
                least = frequent;
                telling = f;
            }
        }
        return telling;
    }

    private int mostFrequent(int f, int all) {
        int nobody = all;
        int most = 0;
        for (int h = 0; h < house.households; h++) {
            int many = chart.having[h * MAX_FLATS + f];
            nobody -= many;
            most = Math.max(most, many);
        }
        return Math.max(most, nobody);
    }

    private int seenCode(int tray) {
        int code = trayCode(tray);
        if (code != 0) {
            return code;
        }
        if (trays[tray].length != house.flats) {
            return TOO_MANY;
        }
        for (int f = 0; f < house.flats; f++) {
            long who = trays[tray].places[f];
            if (who != NOBODY && (who < NONE || who >= house.households)) {
                return BAD_NUMBER;
            }
        }
        return 0;
    }

    private int tallySeen(Tray tray) {
        copyRows();
        for (int f = 0; f < house.flats; f++) {
            long who = tray.places[f];
            for (int h = 0; h < house.households && who != NONE; h++) {
                rows[h] &= h == who ? 1 << f : ~(1 << f);
            }
        }
        return tallyRows();
    }

    // ---- trays, images

    public int numbers(int tray, int sort, int n) {
        if (!isTray(tray) || sort < 0 || sort >= SORTS) {
            return NO_SUCH;
        }
        if (n < 0 || n > TRAY_PLACES) {
            return BAD_NUMBER;
        }
        trays[tray].lay(sort, n);
        return 0;
    }

    public long write(int tray, int i, long v) {
        int code = trayCode(tray);
        if (code != 0) {
            return code;
        }
        if (i < 0 || i >= trays[tray].length) {
            return NO_PLACE;
        }
        trays[tray].put(i, v);
        return trays[tray].places[i];
    }

    public int lists(int tray) {
        int code = trayCode(tray);
        if (code != 0) {
            return code;
        }
        int many = Math.min(house.flats, trays[tray].length);
        for (int f = 0; f < many; f++) {
            int who = house.dwellerOf(f);
            trays[tray].put(f, who == NONE ? NOBODY : who);
        }
        return many;
    }

    public int image(int i) {
        if (i < 0 || i >= IMAGES) {
            return NO_SUCH;
        }
        if (kept[i] == null) {
            kept[i] = new House();
        }
        kept[i].copyFrom(house);
        return 0;
    }

    public int restore(int i) {
        if (i < 0 || i >= IMAGES) {
            return NO_SUCH;
        }
        if (kept[i] == null) {
            return NOT_NOW;
        }
        house.copyFrom(kept[i]);
        history.forget();
        return 0;
    }

    public int count(int what) {
        switch (what) {
            case 0:
                return house.flats;
            case 1:
                return house.households;
            case 2:
                return house.awayMany();
            case 3:
                return house.living.quarter;
            case 4:
                return house.flats - (house.households - house.awayMany());
            case 5:
                return house.faultsOfAll();
            case 6:
                return history.length;
            case 7:
                return tapeLength;
            case 8:
                return house.lines;
            default:
                return NONE;
        }
    }

    private static boolean isTray(int tray) {
        return tray >= 0 && tray < TRAYS;
    }

    /** The code by which a call on a tray is refused, 0 if it isn't. */
    private int trayCode(int tray) {
        if (!isTray(tray)) {
            return NO_SUCH;
        }
        return trays[tray].isMissing() ? TRAY_MISSING : 0;
    }

    /** All that deeds change, so that undoing is one copy. */
    private static final class Living {
        final int[] home = new int[MAX_HOUSEHOLDS];
        final int[] drawn = new int[PAIRS];
        final int[] faults = new int[MAX_FLATS];
        int quarter = 0;

        Living() {
            Arrays.fill(home, NONE);
        }

        void clear() {
            Arrays.fill(home, NONE);
            Arrays.fill(drawn, 0);
            Arrays.fill(faults, 0);
            quarter = 0;
        }

        void copyFrom(Living other) {
            System.arraycopy(other.home, 0, home, 0, MAX_HOUSEHOLDS);
            System.arraycopy(other.drawn, 0, drawn, 0, PAIRS);
            System.arraycopy(other.faults, 0, faults, 0, MAX_FLATS);
            quarter = other.quarter;
        }
    }

    /** A tower as its text tells it, with how they live in it. */
    private static final class House {
        int lines = 0;
        int flats = 0;
        int households = 0;
        final int[] features = new int[MAX_FLATS * FEATURES];
        final int[] traits = new int[MAX_HOUSEHOLDS * TRAITS];
        /** The laws' steps, operands first; each step comes of one token, so a text's length is room enough. */
        final int[] code = new int[MAX_TEXT];
        int codeLength = 0;
        int mayFrom = 0;
        int mayTo = 0;
        int worthFrom = 0;
        int worthTo = 0;
        final Living living = new Living();
        /** Grows with every change, so that what was reckoned earlier knows whether it still holds. */
        int change = 0;

        void clear() {
            lines = 0;
            flats = 0;
            households = 0;
            Arrays.fill(features, 0);
            Arrays.fill(traits, 0);
            codeLength = 0;
            mayFrom = 0;
            mayTo = 0;
            worthFrom = 0;
            worthTo = 0;
            living.clear();
            change++;
        }

        void copyFrom(House other) {
            lines = other.lines;
            flats = other.flats;
            households = other.households;
            System.arraycopy(other.features, 0, features, 0, features.length);
            System.arraycopy(other.traits, 0, traits, 0, traits.length);
            System.arraycopy(other.code, 0, code, 0, other.codeLength);
            codeLength = other.codeLength;
            mayFrom = other.mayFrom;
            mayTo = other.mayTo;
            worthFrom = other.worthFrom;
            worthTo = other.worthTo;
            living.copyFrom(other.living);
            change++;
        }

        void liveAs(Living other) {
            living.copyFrom(other);
            change++;
        }

        void setFaults(int f, int many) {
            living.faults[f] = many;
            change++;
        }

        void setHome(int h, int f) {
            living.home[h] = f;
            change++;
        }

        int feature(int f, int which) {
            return features[f * FEATURES + which];
        }

        int trait(int h, int which) {
            return traits[h * TRAITS + which];
        }

        int dwellerOf(int f) {
            for (int h = 0; h < households; h++) {
                if (living.home[h] == f) {
                    return h;
                }
            }
            return NONE;
        }

        int flatAt(int floor, int column) {
            for (int f = 0; f < flats; f++) {
                if (feature(f, FLOOR) == floor && feature(f, COLUMN) == column) {
                    return f;
                }
            }
            return NONE;
        }

        int flatBelow(int f) {
            return flatAt(feature(f, FLOOR) - 1, feature(f, COLUMN));
        }

        int awayMany() {
            int many = 0;
            for (int h = 0; h < households; h++) {
                many += living.home[h] == NONE ? 1 : 0;
            }
            return many;
        }

        int faultsOfAll() {
            int sum = 0;
            for (int f = 0; f < flats; f++) {
                sum += living.faults[f];
            }
            return sum;
        }
    }

    /** Reads a text token by token, so that the first fault along it is the first one met. */
    private static final class Reader {
        static final int NO_TOKEN = 1;
        static final int CANNOT_STAND = 2;
        static final int OUT_OF_BOUNDS = 3;
        static final int ONE_TOO_MANY = 4;

        /** Laws are kept as numbers, then names from here on, then operations from OPERATION on. */
        static final int NAME = 1000;
        static final int OPERATION = 2000;

        /** The first thirteen are the laws' names, in the order of Table.known. */
        private static final String WORDS =
            "floor column size light faults people noise ears stairs age was times quarter flat household lives may worth not and or ";
        private static final String SIGNS = ";:+-*()[]=<>";
        static final int NAMES = 13;
        private static final int DEEPEST = 6;

        private static final int END = 0;
        private static final int BAD = 1;
        private static final int NUMBER = 2;
        private static final int UNKNOWN_WORD = 3;
        private static final int WORD = 100;
        private static final int SIZE_WORD = WORD + 2;
        private static final int LIGHT_WORD = WORD + 3;
        private static final int FAULTS_WORD = WORD + 4;
        private static final int PEOPLE_WORD = WORD + 5;
        private static final int AGE_WORD = WORD + 9;
        private static final int QUARTER_WORD = WORD + 12;
        private static final int FLAT_WORD = WORD + 13;
        private static final int HOUSEHOLD_WORD = WORD + 14;
        private static final int LIVES_WORD = WORD + 15;
        private static final int MAY_WORD = WORD + 16;
        private static final int WORTH_WORD = WORD + 17;
        static final int NOT = WORD + 18;
        static final int AND = WORD + 19;
        static final int OR = WORD + 20;

        final House told = new House();
        int fault = 0;
        int faultPlace = NONE;
        private byte[] text = new byte[0];
        private int length = 0;
        private int at = 0;
        private int token = END;
        private int value = 0;
        private int place = 0;

        boolean readAll(byte[] bytes, int many) {
            text = bytes;
            length = Math.min(many, bytes.length);
            at = 0;
            fault = 0;
            faultPlace = NONE;
            told.clear();
            next();
            boolean good = true;
            for (int n = 0; n < length && good && token != END; n++) {
                switch (token) {
                    case FLAT_WORD:
                        good = readFlat();
                        break;
                    case HOUSEHOLD_WORD:
                        good = readHousehold();
                        break;
                    case LIVES_WORD:
                        good = readLives();
                        break;
                    case MAY_WORD:
                        good = readMay();
                        break;
                    case WORTH_WORD:
                        good = readWorth();
                        break;
                    case QUARTER_WORD:
                        good = readQuarter();
                        break;
                    default:
                        good = cannotStand();
                        break;
                }
                good = good && take(';');
                told.lines++;
            }
            return good;
        }

        private boolean readFlat() {
            int f = told.flats;
            if (f >= MAX_FLATS) {
                return refuse(ONE_TOO_MANY);
            }
            next();
            if (!isNumber(0, FLOORS - 1)) {
                return false;
            }
            int floor = takeValue();
            if (!isNumber(0, 3)) {
                return false;
            }
            if (told.flatAt(floor, value) != NONE) {
                return refuse(OUT_OF_BOUNDS);
            }
            int column = takeValue();
            if (!take(SIZE_WORD) || !isNumber(1, 99)) {
                return false;
            }
            told.features[f * FEATURES + FLOOR] = floor;
            told.features[f * FEATURES + COLUMN] = column;
            told.features[f * FEATURES + SIZE] = takeValue();
            told.flats++;
            return readFlatFlags(f);
        }

        private boolean readFlatFlags(int f) {
            for (int n = 0; n < length && (token == LIGHT_WORD || token == FAULTS_WORD); n++) {
                boolean isLight = token == LIGHT_WORD;
                next();
                if (!isNumber(0, 9)) {
                    return false;
                }
                if (isLight) {
                    told.features[f * FEATURES + LIGHT] = takeValue();
                } else {
                    told.living.faults[f] = takeValue();
                }
            }
            return true;
        }

        private boolean readHousehold() {
            int h = told.households;
            if (h >= MAX_HOUSEHOLDS) {
                return refuse(ONE_TOO_MANY);
            }
            next();
            if (!isNumber(1, 99)) {
                return false;
            }
            told.traits[h * TRAITS + PEOPLE] = takeValue();
            told.households++;
            for (int n = 0; n < length && token > PEOPLE_WORD && token <= AGE_WORD; n++) {
                int trait = token - PEOPLE_WORD;
                next();
                if (!isNumber(0, 99)) {
                    return false;
                }
                told.traits[h * TRAITS + trait] = takeValue();
            }
            return true;
        }

        private boolean readLives() {
            next();
            if (!isNumber(0, told.households - 1)) {
                return false;
            }
            if (told.living.home[value] != NONE) {
                return refuse(OUT_OF_BOUNDS);
            }
            int h = takeValue();
            if (!isNumber(0, told.flats - 1)) {
                return false;
            }
            if (told.dwellerOf(value) != NONE) {
                return refuse(OUT_OF_BOUNDS);
            }
            told.living.home[h] = takeValue();
            return true;
        }

        private boolean readMay() {
            next();
            int from = told.codeLength;
            if (!take(':') || !readTruth(0)) {
                return false;
            }
            told.mayFrom = from;
            told.mayTo = told.codeLength;
            return true;
        }

        private boolean readWorth() {
            next();
            int from = told.codeLength;
            if (!take(':') || !readSum(0)) {
                return false;
            }
            told.worthFrom = from;
            told.worthTo = told.codeLength;
            return true;
        }

        private boolean readQuarter() {
            next();
            if (!isNumber(0, 999)) {
                return false;
            }
            told.living.quarter = takeValue();
            return true;
        }

        private boolean readTruth(int depth) {
            boolean good = readBoth(depth);
            for (int n = 0; n < length && good && token == OR; n++) {
                next();
                good = readBoth(depth) && emit(OPERATION + OR);
            }
            return good;
        }

        private boolean readBoth(int depth) {
            boolean good = readUnit(depth);
            for (int n = 0; n < length && good && token == AND; n++) {
                next();
                good = readUnit(depth) && emit(OPERATION + AND);
            }
            return good;
        }

        private boolean readUnit(int depth) {
            if (depth >= DEEPEST && (token == NOT || token == '[')) {
                return refuse(ONE_TOO_MANY);
            }
            if (token == NOT) {
                next();
                return readUnit(depth + 1) && emit(OPERATION + NOT);
            }
            if (token == '[') {
                next();
                return readTruth(depth + 1) && take(']');
            }
            if (!readSum(depth)) {
                return false;
            }
            int sign = token;
            if (sign != '=' && sign != '<' && sign != '>') {
                return cannotStand();
            }
            next();
            return readSum(depth) && emit(OPERATION + sign);
        }

        private boolean readSum(int depth) {
            boolean good = readTerm(depth);
            for (int n = 0; n < length && good && (token == '+' || token == '-'); n++) {
                int sign = token;
                next();
                good = readTerm(depth) && emit(OPERATION + sign);
            }
            return good;
        }

        private boolean readTerm(int depth) {
            boolean good = readAtom(depth);
            for (int n = 0; n < length && good && token == '*'; n++) {
                next();
                good = readAtom(depth) && emit(OPERATION + '*');
            }
            return good;
        }

        private boolean readAtom(int depth) {
            if (token == NUMBER) {
                return emit(takeValue());
            }
            if (token >= WORD && token < WORD + NAMES) {
                int name = token - WORD;
                next();
                return emit(NAME + name);
            }
            if (token != '(') {
                return cannotStand();
            }
            if (depth >= DEEPEST) {
                return refuse(ONE_TOO_MANY);
            }
            next();
            return readSum(depth + 1) && take(')');
        }

        private boolean emit(int step) {
            if (told.codeLength >= MAX_TEXT) {
                return false;
            }
            told.code[told.codeLength] = step;
            told.codeLength++;
            return true;
        }

        private boolean take(int wanted) {
            if (token != wanted) {
                return cannotStand();
            }
            next();
            return true;
        }

        private int takeValue() {
            int taken = value;
            next();
            return taken;
        }

        /** Whether the token is an N within bounds; it isn't taken yet, for there may be more to hold against it. */
        private boolean isNumber(int low, int high) {
            if (token != NUMBER) {
                return cannotStand();
            }
            return value >= low && value <= high || refuse(OUT_OF_BOUNDS);
        }

        private boolean cannotStand() {
            return refuse(token == BAD ? NO_TOKEN : CANNOT_STAND);
        }

        private boolean refuse(int kind) {
            fault = kind;
            faultPlace = place;
            return false;
        }

        private void next() {
            while (at < length && (text[at] == 10 || text[at] == 32)) {
                at++;
            }
            place = at;
            if (at >= length) {
                token = END;
            } else if (isLetter(text[at])) {
                while (at < length && isLetter(text[at])) {
                    at++;
                }
                token = wordToken(place, at - place);
            } else if (isDigit(text[at])) {
                value = 0;
                while (at < length && isDigit(text[at])) {
                    value = Math.min(value * 10 + text[at] - '0', 9999);
                    at++;
                }
                token = at - place > 3 ? BAD : NUMBER;
            } else if (text[at] > 0 && SIGNS.indexOf((char) text[at]) >= 0) {
                token = text[at];
                at++;
            } else {
                token = BAD;
            }
        }

        private int wordToken(int from, int many) {
            int number = 0;
            int start = 0;
            int alike = 0;
            for (int i = 0; i < WORDS.length(); i++) {
                char sign = WORDS.charAt(i);
                if (sign == ' ') {
                    if (alike == many && i - start == many) {
                        return WORD + number;
                    }
                    number++;
                    start = i + 1;
                    alike = 0;
                } else if (i - start < many && text[from + i - start] == sign) {
                    alike++;
                }
            }
            return UNKNOWN_WORD;
        }

        private static boolean isLetter(int sign) {
            return sign >= 'a' && sign <= 'z';
        }

        private static boolean isDigit(int sign) {
            return sign >= '0' && sign <= '9';
        }
    }

    /** What both laws say of each household and flat, reckoned anew only behind a change. */
    private static final class Table {
        private static final int MOST = 1_000_000;
        private static final int STACK = 64;
        private static final int FAULTS_KNOWN = 4;
        private static final int TRAITS_KNOWN = 5;
        private static final int WAS_KNOWN = 10;
        private static final int TIMES_KNOWN = 11;
        private static final int QUARTER_KNOWN = 12;

        /** Of each household the flats where it may live, as bits. */
        final int[] allowed = new int[MAX_HOUSEHOLDS];
        final int[] worths = new int[PAIRS];
        private final House house;
        private final int[] known = new int[Reader.NAMES];
        private final int[] stack = new int[STACK];
        private int filledFor = NONE;

        Table(House house) {
            this.house = house;
        }

        void refresh() {
            if (filledFor == house.change) {
                return;
            }
            for (int h = 0; h < house.households; h++) {
                allowed[h] = 0;
                for (int f = 0; f < house.flats; f++) {
                    learn(h, f);
                    boolean lawful = house.mayFrom == house.mayTo || run(house.mayFrom, house.mayTo) != 0;
                    allowed[h] |= lawful ? 1 << f : 0;
                    worths[h * MAX_FLATS + f] = run(house.worthFrom, house.worthTo);
                }
            }
            filledFor = house.change;
        }

        boolean permits(int h, int f) {
            return (allowed[h] >> f & 1) != 0;
        }

        boolean isEnvious(int a, int b) {
            int own = house.living.home[a];
            int other = house.living.home[b];
            return own != NONE && other != NONE && permits(a, other)
                && worths[a * MAX_FLATS + other] > worths[a * MAX_FLATS + own];
        }

        private void learn(int h, int f) {
            for (int k = 0; k < FEATURES; k++) {
                known[k] = house.feature(f, k);
            }
            known[FAULTS_KNOWN] = house.living.faults[f];
            for (int k = 0; k < TRAITS; k++) {
                known[TRAITS_KNOWN + k] = house.trait(h, k);
            }
            known[WAS_KNOWN] = house.living.home[h] == f ? 1 : 0;
            known[TIMES_KNOWN] = house.living.drawn[h * MAX_FLATS + f];
            known[QUARTER_KNOWN] = house.living.quarter % 1000;
        }

        /** The value of a law's steps, 0 of none. */
        private int run(int from, int to) {
            int top = 0;
            for (int i = from; i < to; i++) {
                int step = house.code[i];
                if (step < Reader.OPERATION && top < STACK) {
                    stack[top] = step < Reader.NAME ? step : known[step - Reader.NAME];
                    top++;
                } else if (step == Reader.OPERATION + Reader.NOT && top > 0) {
                    stack[top - 1] = 1 - stack[top - 1];
                } else if (top > 1) {
                    top--;
                    stack[top - 1] = joined(step - Reader.OPERATION, stack[top - 1], stack[top]);
                }
            }
            return top > 0 ? stack[0] : 0;
        }

        private static int joined(int sign, long a, long b) {
            long made;
            switch (sign) {
                case '+':
                    made = a + b;
                    break;
                case '-':
                    made = a - b;
                    break;
                case '*':
                    made = a * b;
                    break;
                case '=':
                    made = a == b ? 1 : 0;
                    break;
                case '<':
                    made = a < b ? 1 : 0;
                    break;
                case '>':
                    made = a > b ? 1 : 0;
                    break;
                case Reader.AND:
                    made = a & b;
                    break;
                default:
                    made = a | b;
                    break;
            }
            return (int) Math.max(-MOST, Math.min(MOST, made));
        }
    }

    /**
     * Maps, counted by the sets of taken flats: households settle in their order,
     * so how many flats are taken tells whose turn it is, and no map need be walked singly.
     */
    private static final class Maps {
        private static final int LOWEST = -1_000_000_000;
        private static final int HIGHEST = 1_000_000_000;

        /** Of each household and flat, in how many maps it has that flat; right behind tallyEach(). */
        final int[] having = new int[PAIRS];
        private final int[] onward = new int[FLAT_SETS];
        private final int[] hither = new int[FLAT_SETS];
        private final int[] value = new int[FLAT_SETS];
        private final int[] lawful = new int[MAX_HOUSEHOLDS];
        private int households = 0;
        private int flats = 0;

        int tally(int[] rows, int manyHouseholds, int manyFlats) {
            households = Math.max(0, Math.min(manyHouseholds, MAX_HOUSEHOLDS));
            flats = Math.max(0, Math.min(manyFlats, MAX_FLATS));
            System.arraycopy(rows, 0, lawful, 0, households);
            for (int taken = (1 << flats) - 1; taken >= 0; taken--) {
                onward[taken] = waysFrom(taken);
            }
            return onward[0];
        }

        private int waysFrom(int taken) {
            int h = Integer.bitCount(taken);
            if (h >= households) {
                return h == households ? 1 : 0;
            }
            int free = lawful[h] & ~taken;
            int sum = 0;
            for (int f = 0; f < flats; f++) {
                if ((free >> f & 1) != 0) {
                    sum += onward[taken | 1 << f];
                }
            }
            return sum;
        }

        /** Whether some map goes on, when household h (whose turn it is) takes flat f. */
        boolean goesOn(int h, int taken, int f) {
            return (lawful[h] & ~taken & 1 << f) != 0 && onward[taken | 1 << f] > 0;
        }

        void tallyEach() {
            Arrays.fill(having, 0);
            Arrays.fill(hither, 0);
            hither[0] = 1;
            for (int taken = 0; taken < 1 << flats; taken++) {
                int h = Integer.bitCount(taken);
                if (h < households && hither[taken] > 0) {
                    passOn(h, taken);
                }
            }
        }

        private void passOn(int h, int taken) {
            for (int f = 0; f < flats; f++) {
                if (goesOn(h, taken, f)) {
                    int then = taken | 1 << f;
                    hither[then] += hither[taken];
                    having[h * MAX_FLATS + f] += hither[taken] * onward[then];
                }
            }
        }

        void find(int n, int[] map) {
            int left = n;
            int taken = 0;
            for (int h = 0; h < households; h++) {
                int f = 0;
                while (f < flats - 1 && !(goesOn(h, taken, f) && left < onward[taken | 1 << f])) {
                    left -= goesOn(h, taken, f) ? onward[taken | 1 << f] : 0;
                    f++;
                }
                map[h] = f;
                taken |= 1 << f;
            }
        }

        int numberOf(int[] map) {
            int number = 0;
            int taken = 0;
            for (int h = 0; h < households; h++) {
                for (int f = 0; f < map[h]; f++) {
                    number += goesOn(h, taken, f) ? onward[taken | 1 << f] : 0;
                }
                taken |= 1 << map[h];
            }
            return number;
        }

        int mostInSum(int[] worths) {
            for (int taken = (1 << flats) - 1; taken >= 0; taken--) {
                int h = Integer.bitCount(taken);
                value[taken] = h >= households ? 0 : LOWEST;
                for (int f = 0; f < flats && h < households; f++) {
                    if (goesOn(h, taken, f)) {
                        value[taken] = Math.max(value[taken], worths[h * MAX_FLATS + f] + value[taken | 1 << f]);
                    }
                }
            }
            return value[0];
        }

        /** The first map of most worth; right behind mostInSum(). */
        void pickMostInSum(int[] worths, int[] map) {
            int taken = 0;
            for (int h = 0; h < households; h++) {
                int f = 0;
                while (f < flats - 1 && !isOfMost(h, taken, f, worths)) {
                    f++;
                }
                map[h] = f;
                taken |= 1 << f;
            }
        }

        private boolean isOfMost(int h, int taken, int f, int[] worths) {
            return goesOn(h, taken, f)
                && worths[h * MAX_FLATS + f] + value[taken | 1 << f] == value[taken];
        }

        int greatestLeast(int[] worths) {
            for (int taken = (1 << flats) - 1; taken >= 0; taken--) {
                int h = Integer.bitCount(taken);
                value[taken] = h >= households ? HIGHEST : LOWEST;
                for (int f = 0; f < flats && h < households; f++) {
                    if (goesOn(h, taken, f)) {
                        int least = Math.min(worths[h * MAX_FLATS + f], value[taken | 1 << f]);
                        value[taken] = Math.max(value[taken], least);
                    }
                }
            }
            return value[0];
        }
    }

    /** Rings of swaps; they are closed one by one, which comes to the same as all of a round at once. */
    private static final class Rings {
        final int[] gets = new int[MAX_HOUSEHOLDS];
        int many = 0;
        int moved = 0;
        private final int[] points = new int[MAX_HOUSEHOLDS];
        private final House house;
        private final Table table;

        Rings(House house, Table table) {
            this.house = house;
            this.table = table;
        }

        /** Turns all rings by a fresh table, and moves nobody yet. */
        void turn() {
            many = 0;
            moved = 0;
            int inside = 0;
            for (int h = 0; h < house.households; h++) {
                gets[h] = NONE;
                inside |= house.living.home[h] == NONE ? 0 : 1 << h;
            }
            for (int round = 0; round < MAX_HOUSEHOLDS && inside != 0; round++) {
                for (int h = 0; h < house.households; h++) {
                    points[h] = (inside >> h & 1) == 0 ? NONE : ownerWanted(h, inside);
                }
                inside &= ~closeOne(inside);
            }
        }

        private int ownerWanted(int h, int inside) {
            int own = house.living.home[h];
            int wanted = h;
            int most = NO_WORTH;
            for (int f = 0; f < house.flats; f++) {
                int owner = house.dwellerOf(f);
                boolean open = owner != NONE && (inside >> owner & 1) != 0 && (f == own || table.permits(h, f));
                if (open && table.worths[h * MAX_FLATS + f] > most) {
                    most = table.worths[h * MAX_FLATS + f];
                    wanted = owner;
                }
            }
            return wanted;
        }

        /** Closes the ring to which the first one inside leads: who is in it, as bits. */
        private int closeOne(int inside) {
            int at = 0;
            while (at < house.households - 1 && (inside >> at & 1) == 0) {
                at++;
            }
            for (int step = 0; step < MAX_HOUSEHOLDS && points[at] != NONE; step++) {
                at = points[at];
            }
            int ring = 0;
            for (int step = 0; step < MAX_HOUSEHOLDS && (ring >> at & 1) == 0 && points[at] != NONE; step++) {
                ring |= 1 << at;
                gets[at] = house.living.home[points[at]];
                at = points[at];
            }
            int size = Integer.bitCount(ring);
            if (size > 1) {
                many++;
                moved += size;
            }
            return ring;
        }
    }

    /** Harm, and the map with the least of it. */
    private static final class Quiet {
        /** Above what seven households can do to one another. */
        private static final int ANY_HARM = 1_000_000;

        int least = NONE;
        final int[] chosen = new int[MAX_HOUSEHOLDS];
        private final House house;
        private final int[] below = new int[MAX_FLATS];
        private final int[] above = new int[MAX_FLATS];
        private final int[] dweller = new int[MAX_FLATS];
        private final int[] trial = new int[MAX_HOUSEHOLDS];
        private int soughtFor = NONE;

        Quiet(House house) {
            this.house = house;
        }

        int harmNow() {
            int sum = 0;
            for (int upper = 0; upper < house.flats; upper++) {
                int lower = house.flatBelow(upper);
                if (lower != NONE) {
                    sum += harmOf(house.dwellerOf(upper), house.dwellerOf(lower));
                }
            }
            return sum;
        }

        private int harmOf(int upper, int lower) {
            return upper == NONE || lower == NONE ? 0 : house.trait(upper, NOISE) * house.trait(lower, EARS);
        }

        /** Seeks among all maps, of which there is one at least, as they were just tallied. */
        void search(Maps chart) {
            if (soughtFor == house.change) {
                return;
            }
            Arrays.fill(dweller, NONE);
            Arrays.fill(above, NONE);
            for (int f = 0; f < house.flats; f++) {
                below[f] = house.flatBelow(f);
                if (below[f] != NONE) {
                    above[below[f]] = f;
                }
            }
            least = ANY_HARM;
            seek(chart, 0, 0, 0);
            soughtFor = house.change;
        }

        /** Harm only grows along the way, so a way that is no better than the least so far is left. */
        private void seek(Maps chart, int h, int taken, int harmSoFar) {
            if (harmSoFar >= least) {
                return;
            }
            if (h >= house.households) {
                least = harmSoFar;
                System.arraycopy(trial, 0, chosen, 0, MAX_HOUSEHOLDS);
                return;
            }
            for (int f = 0; f < house.flats; f++) {
                if (chart.goesOn(h, taken, f)) {
                    dweller[f] = h;
                    trial[h] = f;
                    seek(chart, h + 1, taken | 1 << f, harmSoFar + harmAround(h, f));
                    dweller[f] = NONE;
                }
            }
        }

        private int harmAround(int h, int f) {
            int sum = 0;
            if (below[f] != NONE) {
                sum += harmOf(h, dweller[below[f]]);
            }
            if (above[f] != NONE) {
                sum += harmOf(dweller[above[f]], h);
            }
            return sum;
        }
    }

    /**
     * Moving day: the cheapest way over who is at home, in the store, or settled, and where the lift is.
     * Trips only ever bring someone further on, so a state's number grows and one pass over all is enough.
     */
    private static final class Lift {
        /** A cost is floors times this, and trips. */
        static final int ONE_FLOOR = 32;
        static final int NO_LIMIT = 1_000_000;
        private static final int FAR = NO_LIMIT * ONE_FLOOR;
        private static final int AT_HOME = 0;
        private static final int IN_STORE = 1;
        private static final int SETTLED = 2;
        private static final int MOST_STATES = 2187;

        private final House house;
        private int movers = 0;
        private final int[] who = new int[MAX_HOUSEHOLDS];
        private final int[] start = new int[MAX_HOUSEHOLDS];
        private final int[] end = new int[MAX_HOUSEHOLDS];
        private final int[] inTheWay = new int[MAX_HOUSEHOLDS];
        private final int[] firstPhase = new int[MAX_HOUSEHOLDS];
        private final int[] stride = new int[MAX_HOUSEHOLDS];
        private final int[] phase = new int[MAX_HOUSEHOLDS];
        private int[] cost = new int[0];

        Lift(House house) {
            this.house = house;
        }

        /** The least cost of a way to a map in fewer floors than the limit; NO_LIMIT floors, if there is none. */
        int cheapest(int[] map, int limit) {
            int states = gather(map);
            if (floorsToGo(0) >= limit) {
                return FAR;
            }
            if (cost.length == 0) {
                cost = new int[MOST_STATES * FLOORS];
            }
            Arrays.fill(cost, 0, states * FLOORS, FAR);
            cost[0] = 0;
            for (int state = 0; state < states - 1; state++) {
                expand(state, limit);
            }
            int least = FAR;
            for (int floor = 0; floor < FLOORS; floor++) {
                least = Math.min(least, cost[(states - 1) * FLOORS + floor]);
            }
            return least;
        }

        private int gather(int[] map) {
            movers = 0;
            int states = 1;
            for (int h = 0; h < house.households; h++) {
                int from = house.living.home[h];
                if (from != map[h]) {
                    who[movers] = h;
                    firstPhase[movers] = from == NONE ? IN_STORE : AT_HOME;
                    start[movers] = from == NONE ? 0 : house.feature(from, FLOOR);
                    end[movers] = house.feature(map[h], FLOOR);
                    stride[movers] = states;
                    states *= from == NONE ? 2 : 3;
                    movers++;
                }
            }
            for (int i = 0; i < movers; i++) {
                inTheWay[i] = moverOf(house.dwellerOf(map[who[i]]));
            }
            return states;
        }

        private int moverOf(int h) {
            for (int i = 0; i < movers; i++) {
                if (who[i] == h) {
                    return i;
                }
            }
            return NONE;
        }

        /** Learns where all are in a state: the floors that must at least still be gone with a load. */
        private int floorsToGo(int state) {
            int rest = state;
            int floors = 0;
            for (int i = 0; i < movers; i++) {
                int phases = firstPhase[i] == IN_STORE ? 2 : 3;
                phase[i] = firstPhase[i] + rest % phases;
                rest /= phases;
                if (phase[i] != SETTLED) {
                    floors += Math.abs(end[i] - floorOf(i));
                }
            }
            return floors;
        }

        private int floorOf(int i) {
            return phase[i] == AT_HOME ? start[i] : 0;
        }

        private void expand(int state, int limit) {
            int toGo = NONE;
            for (int floor = 0; floor < FLOORS; floor++) {
                int now = cost[state * FLOORS + floor];
                if (now < FAR) {
                    toGo = toGo == NONE ? floorsToGo(state) : toGo;
                    if (now / ONE_FLOOR + toGo < limit) {
                        ride(state, floor, now);
                    }
                }
            }
        }

        private void ride(int state, int floor, int now) {
            for (int i = 0; i < movers; i++) {
                if (phase[i] != SETTLED) {
                    int from = floorOf(i);
                    int empty = Math.abs(floor - from);
                    if (inTheWay[i] == NONE || phase[inTheWay[i]] != AT_HOME) {
                        int gone = empty + Math.abs(end[i] - from);
                        arrive(state + (SETTLED - phase[i]) * stride[i], end[i], now + gone * ONE_FLOOR + 1);
                    }
                    if (phase[i] == AT_HOME) {
                        arrive(state + stride[i], 0, now + (empty + from) * ONE_FLOOR + 1);
                    }
                }
            }
        }

        private void arrive(int state, int floor, int then) {
            int slot = state * FLOORS + floor;
            cost[slot] = Math.min(cost[slot], then);
        }
    }

    /** Deeds on how they live; each answers why it can't be, or that it is done. */
    private static final class Deeds {
        static final int DONE = 0;
        private static final int NO_SUCH_ONE = 1;
        private static final int NOT_AS_IT_IS = 2;
        private static final int MAY_NOT = 3;
        private static final int MOST_FAULTS = 9;

        /** Of a row of deeds: whether some changed anything, and why the last one couldn't be. */
        boolean some = false;
        int why = DONE;
        int drawnMap = NONE;
        private final House house;
        private final Table table;
        private final Maps chart;
        private final Rings ringed;
        private final int[] map = new int[MAX_HOUSEHOLDS];
        private int lot = 0;

        Deeds(House house, Table table, Maps chart, Rings ringed) {
            this.house = house;
            this.table = table;
            this.chart = chart;
            this.ringed = ringed;
        }

        int settle(int h, int f) {
            if (h < 0 || h >= house.households || f < 0 || f >= house.flats) {
                return NO_SUCH_ONE;
            }
            if (house.dwellerOf(f) != NONE) {
                return NOT_AS_IT_IS;
            }
            table.refresh();
            if (!table.permits(h, f)) {
                return MAY_NOT;
            }
            house.setHome(h, f);
            return DONE;
        }

        int depart(int h) {
            if (h < 0 || h >= house.households) {
                return NO_SUCH_ONE;
            }
            if (house.living.home[h] == NONE) {
                return NOT_AS_IT_IS;
            }
            house.setHome(h, NONE);
            return DONE;
        }

        int spoil(int f) {
            if (f < 0 || f >= house.flats) {
                return NO_SUCH_ONE;
            }
            if (house.living.faults[f] >= MOST_FAULTS) {
                return NOT_AS_IT_IS;
            }
            house.setFaults(f, house.living.faults[f] + 1);
            return DONE;
        }

        int mend(int f) {
            if (f < 0 || f >= house.flats) {
                return NO_SUCH_ONE;
            }
            if (house.living.faults[f] == 0) {
                return NOT_AS_IT_IS;
            }
            house.setFaults(f, 0);
            return DONE;
        }

        int draw(long n) {
            table.refresh();
            int all = chart.tally(table.allowed, house.households, house.flats);
            if (all == 0) {
                return NOT_AS_IT_IS;
            }
            drawnMap = (int) (n % all);
            chart.find(drawnMap, map);
            for (int h = 0; h < house.households; h++) {
                house.setHome(h, map[h]);
                house.living.drawn[h * MAX_FLATS + map[h]]++;
            }
            house.living.quarter++;
            house.change++;
            return DONE;
        }

        int swapByRings() {
            table.refresh();
            ringed.turn();
            for (int h = 0; h < house.households && ringed.moved > 0; h++) {
                house.setHome(h, ringed.gets[h]);
            }
            return DONE;
        }

        /** Does what a tray tells till one can't be: how many were done. */
        int doAll(Tray tray) {
            some = false;
            why = DONE;
            for (int i = 0; i < tray.length; i++) {
                why = doOne(tray.places[i]);
                if (why != DONE) {
                    return i;
                }
            }
            return Math.max(0, tray.length);
        }

        private int doOne(long v) {
            if (v >= 4000) {
                return noted(draw(v - 4000));
            }
            if (v < 0 || v > 3000) {
                return NO_SUCH_ONE;
            }
            int deed = (int) v;
            if (deed == 3000) {
                swapByRings();
                some |= ringed.moved > 0;
                return DONE;
            }
            if (deed >= 2100) {
                return noted(mend(deed - 2100));
            }
            if (deed >= 2000) {
                return noted(spoil(deed - 2000));
            }
            if (deed >= 1000) {
                return noted(depart(deed - 1000));
            }
            return noted(settle(deed / 100, deed % 100));
        }

        private int noted(int reason) {
            some |= reason == DONE;
            return reason;
        }

        int doYear(int seed, int times) {
            some = false;
            lot = seed;
            int done = 0;
            for (int n = 0; n < times; n++) {
                done += doByLot() == DONE ? 1 : 0;
            }
            return done;
        }

        private int doByLot() {
            switch (nextLot() % 5) {
                case 2:
                    int h = nextLot() % Math.max(1, house.households);
                    int f = nextLot() % Math.max(1, house.flats);
                    return noted(settle(h, f));
                case 3:
                    swapByRings();
                    some |= ringed.moved > 0;
                    return DONE;
                case 4:
                    return noted(spoil(nextLot() % Math.max(1, house.flats)));
                default:
                    return noted(draw(nextLot()));
            }
        }

        private int nextLot() {
            lot = 1103515245 * lot + 12345;
            return lot >>> 16;
        }
    }

    /** How they lived ahead of the latest calls, the eldest of which are forgotten. */
    private static final class History {
        int length = 0;
        private int first = 0;
        private final Living[] rows = new Living[MOST_UNDONE];

        History() {
            for (int i = 0; i < MOST_UNDONE; i++) {
                rows[i] = new Living();
            }
        }

        void forget() {
            length = 0;
        }

        void keep(Living before) {
            if (length == MOST_UNDONE) {
                first = (first + 1) % MOST_UNDONE;
                length--;
            }
            rows[(first + length) % MOST_UNDONE].copyFrom(before);
            length++;
        }

        /** How they lived ahead of the nth latest call; n is at most as many as there are. */
        Living takeBack(int n) {
            length = Math.max(0, length - n);
            return rows[(first + length) % MOST_UNDONE];
        }
    }

    /** A row of numbers of one sort. */
    private static final class Tray {
        int length = NONE;
        final long[] places = new long[TRAY_PLACES];
        private int sort = 0;

        boolean isMissing() {
            return length == NONE;
        }

        void lay(int newSort, int many) {
            sort = newSort;
            length = many;
            Arrays.fill(places, 0L);
        }

        void put(int i, long v) {
            switch (sort) {
                case 0:
                    places[i] = (byte) v;
                    break;
                case 1:
                    places[i] = (short) v;
                    break;
                case 2:
                    places[i] = (int) v;
                    break;
                default:
                    places[i] = v;
                    break;
            }
        }
    }
}
