/** Every boundary that the sections of promises 1 to 48 name, each under its own words: inside, outside, empty, full. */
public final class PromiseBoundsTest extends Told {
    private static final int LEAST = Integer.MIN_VALUE;
    private static final int MOST = Integer.MAX_VALUE;
    private static final int NO_WORTH = -2_000_000;
    private static final String ONE = "flat 0 0 size 1;household 1;";
    private static final String FULL = flats(8) + households(7);

    /** Two households for one flat, and none for whom it would do. */
    private static final String CROWD = "flat 0 0 size 1;household 1;household 1;";
    private static final int[] NO_TRAYS = {-1, 4, LEAST, MOST};

    private interface OfOne {
        int ask(FloorsByLot x, int n);
    }

    private interface OfTwo {
        int ask(FloorsByLot x, int a, int b);
    }

    public static void main(String[] args) {
        newObject();
        feed();
        tower();
        fault();
        flatAndHousehold();
        timesMayWorth();
        draws();
        rings();
        moves();
        leavesSpoilsMends();
        undo();
        judge();
        perform();
        year();
        maps();
        inMap();
        with();
        near();
        allElse();
        likeliest();
        sure();
        tooMany();
        best();
        fairest();
        stillest();
        bestMending();
        thisMap();
        harm();
        envies();
        wouldSwap();
        byRings();
        ringsMany();
        moving();
        nearest();
        seen();
        had();
        wall();
        numbers();
        write();
        lists();
        image();
        restore();
        count();
        end();
    }

    private static void none(FloorsByLot x, OfOne call, int code, int... outside) {
        for (int n : outside) {
            due(call.ask(x, n), code);
        }
    }

    /** Of a tower of 3 flats and 2 households: pairs just outside, and far. */
    private static void noPairs(OfTwo call, int code) {
        FloorsByLot x = of(TALL + "lives 0 1;");
        int[][] outside = {{-1, 0}, {0, -1}, {2, 0}, {0, 3}, {2, 3}, {LEAST, 0}, {0, LEAST}, {MOST, 0}, {0, MOST}};
        for (int[] pair : outside) {
            due(call.ask(x, pair[0], pair[1]), code);
        }
        due(call.ask(new FloorsByLot(), 0, 0), code);
        due(call.ask(of(flats(1)), 0, 0), code);
        due(call.ask(of(households(1)), 0, 0), code);
        FloorsByLot full = of(FULL);
        due(call.ask(full, 7, 0), code);
        due(call.ask(full, 0, 8), code);
    }

    private static void newObject() {
        promise(1, "No FLATS, no HOUSEHOLDS.");
        FloorsByLot x = new FloorsByLot();
        for (int what = 0; what <= 8; what++) {
            due(x.count(what), 0);
        }
        due(x.flat(0, 0), -8);
        due(x.household(0, 0), -8);
        due(x.maps(), 1);
        due(x.harm(), 0);
        due(x.seen(0), -6);
        due(x.restore(0), -5);
        due(x.undo(1), -3);
        x.draws(1);
        due(new FloorsByLot().count(3), 0);
    }

    private static void feed() {
        promise(2, "Twenty bytes come behind those on THE TAPE, the highest of each int first: how many it has.");
        FloorsByLot x = new FloorsByLot();
        due(x.feed(0x71756172, 0x74657220, 0x313b2020, 0x20202020, 0x71756172), 20);
        due(x.count(7), 20);
        due(x.feed(0x74657220, 0x323b2020, 0x20202020, 0x20202020, 0x20202021), 40);
        due(x.tower(39), 2);
        due(x.count(3), 2);
        due(x.count(7), 0);
        x.feed(0x20202020, 0x20202020, 0x20202020, 0x20202020, 0xff000000);
        due(x.tower(20), -31);
        due(x.fault(1), 16);
        x.feed(0x20202020, 0x20202020, 0x20202020, 0x20202020, 0x202020ff);
        due(x.tower(20), -31);
        due(x.fault(1), 19);
        promise(2, "-5: it would have more than 900.");
        for (int n = 1; n <= 45; n++) {
            due(x.feed(0x20202020, 0x20202020, 0x20202020, 0x20202020, n < 45 ? 0x20202020 : 0x2020203b), 20 * n);
        }
        due(x.feed(0x20202020, 0x20202020, 0x20202020, 0x20202020, 0x20202020), -5);
        due(x.feed(0, 0, 0, 0, 0), -5);
        due(x.count(7), 900);
        due(x.tower(900), -32);
        due(x.fault(1), 899);
        due(x.feed(0x20202020, 0x20202020, 0x20202020, 0x20202020, 0x20202020), 20);
    }

    private static void tower() {
        promise(3, "The first n bytes of THE TAPE (which is empty then) are THE TOWER, nothing can be UNDONE: how many LINES (all stays with a FAULT).");
        FloorsByLot x = of(FOUR);
        x.draws(1);
        Told.feed(x, "quarter 7;quarter 8;");
        due(x.tower(10), 1);
        due(x.count(3), 7);
        due(x.count(7), 0);
        due(x.count(6), 0);
        due(x.undo(1), -3);
        due(x.count(0), 0);
        firstBytesAlone();
        x.draws(0);
        Told.feed(x, "quarter 9;quarter 8;");
        due(x.tower(0), 0);
        due(x.count(3), 0);
        due(x.count(7), 0);
        read(x, FOUR);
        x.draws(1);
        for (String bad : new String[] {"#", "flat", "flat 10", households(8)}) {
            due(read(x, bad) < -30 ? 1 : 0, 1);
            due(x.count(7), 0);
            due(x.count(0), 4);
            due(x.count(1), 3);
            due(x.count(3), 6);
            due(x.count(6), 1);
            due(x.count(8), 12);
            due(x.thisMap(), 1);
            due(x.worth(1, 2), 12);
        }
        due(x.undo(1), 0);
        due(x.count(3), 5);
        promise(3, "-3: n is below 0 or above what there is (THE TAPE stays)");
        none(x, FloorsByLot::tower, -3, -1, 1, 20, LEAST, MOST);
        Told.feed(x, "quarter 9;quarter 8;");
        none(x, FloorsByLot::tower, -3, -1, 21, 40, 900, LEAST, MOST);
        due(x.count(7), 20);
        due(x.tower(20), 2);
        promise(3, "-30 less the FAULT.");
        due(read(x, "#"), -31);
        due(read(x, "flat"), -32);
        due(read(x, "flat 10"), -33);
        due(read(x, households(8)), -34);
    }

    /** What stands on the tape behind the first n bytes is no part of the text, and what was told in an earlier one isn't either. */
    private static void firstBytesAlone() {
        String[] tapes = {"quarters", "quarter 1234;", "quarter 1    ;", "quarter 12;", "flatquarter 1;"};
        int[] many = {7, 11, 12, 10, 4};
        for (int k = 0; k < tapes.length; k++) {
            FloorsByLot x = new FloorsByLot();
            Told.feed(x, tapes[k]);
            due(x.tower(many[k]), -32);
            due(x.fault(1), many[k]);
        }
        FloorsByLot word = new FloorsByLot();
        due(read(word, " ".repeat(893) + "quarter"), -32);
        due(word.fault(1), 900);
        FloorsByLot again = of("flat 1 0 size 9 light 8 faults 7;household 6 noise 5 ears 4 stairs 3 age 2;lives 0 0;worth : 9;may : 1 = 2;quarter 1;");
        again.draws(0);
        due(read(again, "flat 0 0 size 1;household 1;"), 2);
        int[] flat = {0, 0, 1, 0, 0, NONE};
        int[] household = {1, 0, 0, 0, 0, NONE};
        for (int what = 0; what < 6; what++) {
            due(again.flat(0, what), flat[what]);
            due(again.household(0, what), household[what]);
        }
        due(again.worth(0, 0), 0);
        due(again.may(0, 0), 1);
        due(again.count(3), 0);
        due(again.times(0, 0), 0);
        due(again.draws(0), 0);
        due(again.times(0, 0), 1);
        due(read(again, "flat 0 0 size 1;household 1;worth : 7;"), 3);
        due(again.times(0, 0), 0);
        due(again.worth(0, 0), 7);
        due(read(again, "flat 0 0 size 1;household 1;may : 2 > 1;"), 3);
        due(again.worth(0, 0), 0);
    }

    private static void fault() {
        promise(4, "Of the latest tower() that was read, what 0: its FAULT (0), 1: its place (NONE). NONE for others.");
        FloorsByLot x = new FloorsByLot();
        due(x.fault(0), 0);
        due(x.fault(1), NONE);
        read(x, "quarter 1;flat 10");
        due(x.fault(0), 3);
        due(x.fault(1), 15);
        due(x.tower(1), -3);
        due(x.tower(-1), -3);
        due(x.fault(0), 3);
        due(x.fault(1), 15);
        x.image(0);
        x.restore(0);
        due(x.fault(0), 3);
        read(x, "#");
        due(x.fault(0), 1);
        due(x.fault(1), 0);
        due(x.tower(0), 0);
        due(x.fault(0), 0);
        due(x.fault(1), NONE);
        read(x, "flat");
        none(x, FloorsByLot::fault, NONE, -1, 2, 3, LEAST, MOST);
    }

    private static void flatAndHousehold() {
        promise(5, "what 0: FLOOR, 1: COLUMN, 2: size, 3: light, 4: FAULTS, 5: who lives there (NONE). -8: no such FLAT, what.");
        FloorsByLot x = of("flat 1 2 size 3 light 4 faults 5;flat 6 0 size 1;household 1;household 1;lives 1 0;");
        int[] told = {1, 2, 3, 4, 5, 1};
        for (int what = 0; what < 6; what++) {
            due(x.flat(0, what), told[what]);
        }
        due(x.flat(1, 5), NONE);
        for (int what : new int[] {-1, 6, LEAST, MOST}) {
            due(x.flat(0, what), -8);
        }
        none(x, (y, f) -> y.flat(f, 0), -8, -1, 2, 8, LEAST, MOST);
        none(of(FULL), (y, f) -> y.flat(f, 5), -8, -1, 8);
        due(of(FULL).flat(7, 0), 7);
        promise(6, "what 0: people, 1: noise, 2: ears, 3: stairs, 4: age, 5: its FLAT (NONE: AWAY). -8: no such HOUSEHOLD, what.");
        FloorsByLot y = of("flat 0 0 size 1;household 1 noise 2 ears 3 stairs 4 age 5;household 9;lives 0 0;");
        int[] people = {1, 2, 3, 4, 5, 0};
        for (int what = 0; what < 6; what++) {
            due(y.household(0, what), people[what]);
        }
        due(y.household(1, 5), NONE);
        for (int what : new int[] {-1, 6, LEAST, MOST}) {
            due(y.household(0, what), -8);
        }
        none(y, (z, h) -> z.household(h, 0), -8, -1, 2, 7, LEAST, MOST);
        none(of(FULL), (z, h) -> z.household(h, 5), -8, -1, 7);
        due(of(FULL).household(6, 0), 1);
    }

    private static void timesMayWorth() {
        promise(7, "TIMES of a HOUSEHOLD in a FLAT. -2.");
        FloorsByLot x = of(FULL);
        due(x.times(6, 7), 0);
        x.draws(1);
        due(x.times(6, 7), 1);
        due(x.times(6, 6), 0);
        noPairs(FloorsByLot::times, -2);
        promise(8, "Whether a HOUSEHOLD MAY live in a FLAT: 1, 0. -2.");
        FloorsByLot y = of(FULL + "may : floor < 7;");
        due(y.may(6, 6), 1);
        due(y.may(6, 7), 0);
        noPairs(FloorsByLot::may, -2);
        promise(9, "WORTH of a FLAT to a HOUSEHOLD. -2000000: no such one.");
        FloorsByLot z = of(FULL + "worth : 0 - 999 * 999 * 999;");
        due(z.worth(6, 7), -1_000_000);
        noPairs(FloorsByLot::worth, NO_WORTH);
    }

    private static void draws() {
        promise(10, "A DRAW by n: the number of the MAP. -3: n is below 0; -5: there are no MAPS.");
        FloorsByLot x = of(TALL);
        due(x.draws(0), 0);
        due(x.draws(5), 5);
        due(x.draws(6), 0);
        due(x.draws(MOST), 1);
        none(x, FloorsByLot::draws, -3, -1, -6, LEAST);
        due(x.count(3), 4);
        FloorsByLot crowd = of(CROWD);
        none(crowd, FloorsByLot::draws, -5, 0, 1, MOST);
        none(crowd, FloorsByLot::draws, -3, -1, LEAST);
        due(crowd.count(3), 0);
        due(crowd.count(6), 0);
        due(new FloorsByLot().draws(0), 0);
    }

    private static void rings() {
        promise(11, "RINGS: how many HOUSEHOLDS live elsewhere then.");
        due(new FloorsByLot().rings(), 0);
        due(of(FULL).rings(), 0);
        FloorsByLot x = of(SWAP);
        due(x.rings(), 2);
        due(x.household(0, 5), 0);
        due(x.rings(), 0);
        due(x.household(0, 5), 0);
        due(x.count(6), 1);
    }

    private static void moves() {
        promise(12, "It MOVES: FLOORS between its FLAT and that (from FLOOR 0, if it was AWAY). -11 to -13.");
        FloorsByLot x = of(TALL + "may : floor < 9 or age = 0;");
        due(x.moves(0, 2), 9);
        due(x.moves(0, 0), 9);
        due(x.moves(0, 1), 3);
        due(x.moves(0, 2), 6);
        due(x.moves(0, 1), 6);
        due(x.moves(1, 0), 0);
        due(x.moves(1, 1), -12);
        due(x.moves(1, 0), -12);
        due(x.count(6), 6);
        noPairs(FloorsByLot::moves, -11);
        FloorsByLot may = of(TALL + "may : floor < 4;");
        due(may.moves(0, 2), -13);
        due(may.moves(0, 1), 3);
        due(may.moves(0, 2), -13);
        due(may.moves(1, 1), -12);
        due(may.moves(2, 1), -11);
        due(of("flat 5 0 size 1;flat 5 3 size 1;household 1;lives 0 0;").moves(0, 1), 0);
    }

    private static void leavesSpoilsMends() {
        promise(13, "It LEAVES: the FLAT it had. -11, -12.");
        FloorsByLot x = of(TALL + "lives 0 2;lives 1 0;");
        due(x.leaves(0), 2);
        due(x.leaves(0), -12);
        due(x.leaves(1), 0);
        due(x.leaves(1), -12);
        none(x, FloorsByLot::leaves, -11, -1, 2, 7, LEAST, MOST);
        due(x.count(2), 2);
        due(x.count(6), 2);
        promise(14, "A FAULT more: how many it has. -11, -12.");
        FloorsByLot y = of("flat 0 0 size 1;flat 1 0 size 1 faults 8;");
        due(y.spoils(0), 1);
        due(y.spoils(1), 9);
        due(y.spoils(1), -12);
        none(y, FloorsByLot::spoils, -11, -1, 2, 8, LEAST, MOST);
        due(y.count(5), 10);
        promise(15, "It is MENDED: how many it had. -11, -12.");
        due(y.mends(1), 9);
        due(y.mends(1), -12);
        due(y.mends(0), 1);
        due(y.mends(0), -12);
        none(y, FloorsByLot::mends, -11, -1, 2, 8, LEAST, MOST);
        due(y.count(5), 0);
        due(y.count(6), 4);
    }

    private static void undo() {
        promise(16, "n calls (1 to 10) are UNDONE: how many still can be. -3: n, more than can be.");
        FloorsByLot x = of(flats(8) + households(1));
        none(x, FloorsByLot::undo, -3, 0, 1, -1, 10, 11, LEAST, MOST);
        for (int n = 0; n < 11; n++) {
            x.draws(n);
        }
        none(x, FloorsByLot::undo, -3, 0, -1, 11, LEAST, MOST);
        due(x.undo(10), 0);
        due(x.count(3), 1);
        none(x, FloorsByLot::undo, -3, 0, 1);
        for (int n = 0; n < 3; n++) {
            x.draws(n);
        }
        none(x, FloorsByLot::undo, -3, 4, 10);
        due(x.undo(1), 2);
        due(x.undo(2), 0);
        due(x.count(3), 1);
    }

    private static void judge() {
        promise(17, "DEEDS, judged as if done, what 0: the first place that can't be (NONE), 1: why (0), 2: QUARTER then, 3: how many aren't AWAY then.");
        FloorsByLot x = of(FOUR);
        tray(x, 0);
        judgedIs(x, NONE, 0, 5, 2);
        tray(x, 0, 4000, 4001);
        judgedIs(x, NONE, 0, 7, 3);
        tray(x, 0, 1000, 4000, 1002, 203, 4000);
        judgedIs(x, 3, 3, 6, 2);
        tray(x, 0, -1, 4000);
        judgedIs(x, 0, 1, 5, 2);
        long[] forty = new long[40];
        java.util.Arrays.fill(forty, 4000);
        tray(x, 0, forty);
        judgedIs(x, NONE, 0, 45, 3);
        forty[39] = 3999;
        tray(x, 0, forty);
        judgedIs(x, 39, 1, 44, 3);
        due(x.count(3), 5);
        due(x.count(6), 0);
        due(x.times(0, 0), 0);
        promise(17, "-2: the TRAY, what; -6.");
        none(x, (y, t) -> y.judge(t, 0), -2, NO_TRAYS);
        none(x, (y, what) -> y.judge(0, what), -2, -1, 4, LEAST, MOST);
        none(x, (y, t) -> y.judge(t, 3), -6, 1, 2, 3);
    }

    private static void judgedIs(FloorsByLot x, int place, int why, int quarter, int home) {
        due(x.judge(0, 0), place);
        due(x.judge(0, 1), why);
        due(x.judge(0, 2), quarter);
        due(x.judge(0, 3), home);
    }

    private static void perform() {
        promise(18, "They are done, till one can't be: how many. -2; -6.");
        FloorsByLot x = of(FOUR);
        none(x, FloorsByLot::perform, -2, NO_TRAYS);
        none(x, FloorsByLot::perform, -6, 0, 1, 2, 3);
        tray(x, 0);
        due(x.perform(0), 0);
        tray(x, 0, 3999, 4000);
        due(x.perform(0), 0);
        due(x.count(3), 5);
        tray(x, 0, 4000, 3999, 4000);
        due(x.perform(0), 1);
        due(x.count(3), 6);
        long[] forty = new long[40];
        java.util.Arrays.fill(forty, 4003);
        tray(x, 3, forty);
        due(x.perform(3), 40);
        due(x.count(3), 46);
        due(x.count(6), 2);
        forty[39] = 1003;
        tray(x, 3, forty);
        due(x.perform(3), 39);
        due(x.perform(4), -2);
    }

    private static void year() {
        promise(19, "A YEAR: how many could be. -3: how many times; -5: no FLATS, no HOUSEHOLDS.");
        FloorsByLot x = of(TALL);
        none(x, (y, times) -> y.year(7, times), -3, 0, -1, 31, LEAST, MOST);
        due(x.year(7, 1) >= 0 ? 1 : 0, 1);
        due(x.year(7, 30) > 0 ? 1 : 0, 1);
        for (String text : new String[] {"", flats(8), households(7), flats(1) + "quarter 3;"}) {
            FloorsByLot none = of(text);
            due(none.year(7, 1), -5);
            due(none.year(7, 30), -5);
            due(none.year(7, 0), -3);
            due(none.year(7, 31), -3);
            due(none.count(6), 0);
        }
        due(of(ONE).year(7, 1) >= 0 ? 1 : 0, 1);
        FloorsByLot still = of(flats(1).replace("size 1", "size 1 faults 9") + households(2) + "lives 0 0;may : 1 = 2;");
        int could = 0;
        int lot = 1;
        for (int n = 0; n < 30; n++) {
            lot = 1103515245 * lot + 12345;
            int kind = (lot >>> 16) % 5;
            could += kind == 3 ? 1 : 0;
            lot = kind == 3 ? lot : 1103515245 * lot + 12345;
            lot = kind == 2 ? 1103515245 * lot + 12345 : lot;
        }
        due(still.year(1, 30), could);
        due(still.count(6), 0);
    }

    private static void maps() {
        promise(20, "How many MAPS there are.");
        due(new FloorsByLot().maps(), 1);
        due(of(CROWD).maps(), 0);
        due(of(ONE).maps(), 1);
        due(of(FULL).maps(), 40320);
    }

    private static void inMap() {
        promise(21, "The FLAT of a HOUSEHOLD in a MAP. NONE: no such MAP; -2: the HOUSEHOLD; -3: n is below 0.");
        FloorsByLot x = of(TALL);
        due(x.inMap(0, 0), 0);
        due(x.inMap(5, 1), 1);
        none(x, (y, n) -> y.inMap(n, 0), NONE, 6, 7, MOST);
        none(x, (y, n) -> y.inMap(n, 0), -3, -1, LEAST);
        none(x, (y, h) -> y.inMap(0, h), -2, -1, 2, 7, LEAST, MOST);
        none(x, (y, h) -> y.inMap(-1, h), -2, -1, 2);
        none(x, (y, h) -> y.inMap(6, h), -2, -1, 2);
        due(of(CROWD).inMap(0, 0), NONE);
        due(of(CROWD).inMap(-1, 0), -3);
        due(of(FULL).inMap(40319, 6), 1);
        due(of(FULL).inMap(40320, 6), NONE);
        due(of(FULL).inMap(40319, 7), -2);
    }

    private static void with() {
        promise(22, "MAPS in which a HOUSEHOLD has a FLAT. -2.");
        due(of(FULL).with(6, 7), 5040);
        due(of(CROWD).with(1, 0), 0);
        due(of(ONE).with(0, 0), 1);
        noPairs(FloorsByLot::with, -2);
    }

    private static void near() {
        promise(23, "MAPS in which one of two lives right above the other. -2: no such HOUSEHOLDS, both one.");
        FloorsByLot x = of(FULL);
        due(x.near(0, 6), 7 * 2 * 720);
        due(x.near(6, 0), 7 * 2 * 720);
        due(x.near(6, 6), -2);
        none(x, (y, h) -> y.near(0, h), -2, -1, 0, 7, LEAST, MOST);
        none(x, (y, h) -> y.near(h, 0), -2, -1, 0, 7, LEAST, MOST);
        due(x.near(8, 8), -2);
        due(of(CROWD).near(0, 1), 0);
        due(of("flat 8 3 size 1;flat 9 3 size 1;household 1;household 1;").near(0, 1), 2);
        due(of("flat 9 3 size 1;flat 8 3 size 1;household 1;household 1;").near(0, 1), 2);
        due(of("flat 9 3 size 1;flat 0 3 size 1;household 1;household 1;").near(0, 1), 0);
        due(of("flat 0 3 size 1;flat 1 0 size 1;household 1;household 1;").near(0, 1), 0);
        due(of("flat 7 3 size 1;flat 9 3 size 1;household 1;household 1;").near(0, 1), 0);
    }

    private static void allElse() {
        promise(24, "MAPS in which nobody has the FLAT it has now (AWAY ones never do).");
        due(new FloorsByLot().allElse(), 1);
        due(of(CROWD).allElse(), 0);
        due(of(ONE).allElse(), 1);
        due(of(ONE + "lives 0 0;").allElse(), 0);
        due(of(FULL).allElse(), 40320);
        due(of(FULL + "lives 6 7;").allElse(), 40320 - 5040);
        due(of(flats(3) + households(3) + "lives 0 0;lives 1 1;lives 2 2;").allElse(), 2);
    }

    private static void likeliest() {
        promise(25, "The FLAT that a HOUSEHOLD has in most MAPS, the first. NONE: there are no MAPS; -2.");
        due(of(FULL).likeliest(6), 0);
        due(of(FULL + "may : floor > 0;").likeliest(6), 1);
        due(of(flats(3) + "household 1;household 2;may : people = 1 or floor < 2;").likeliest(0), 2);
        due(of(CROWD).likeliest(0), NONE);
        due(of(households(1)).likeliest(0), NONE);
        none(of(CROWD), FloorsByLot::likeliest, -2, -1, 2, LEAST, MOST);
        none(of(FULL), FloorsByLot::likeliest, -2, -1, 7, LEAST, MOST);
        due(new FloorsByLot().likeliest(0), -2);
    }

    private static void sure() {
        promise(26, "FLATS a HOUSEHOLD has what 0: in every MAP, 1: in some, 2: in none, as bits (without MAPS 0, whatever is asked). -2: the HOUSEHOLD, what.");
        FloorsByLot full = of(FULL);
        due(full.sure(6, 0), 0);
        due(full.sure(6, 1), 255);
        due(full.sure(6, 2), 0);
        FloorsByLot high = of(FULL + "may : floor > 0;");
        due(high.sure(0, 1), 254);
        due(high.sure(0, 2), 1);
        FloorsByLot tied = of(flats(8) + "household 8;may : floor = people - 1;");
        due(tied.sure(0, 0), 128);
        due(tied.sure(0, 1), 128);
        due(tied.sure(0, 2), 127);
        for (int what = 0; what < 3; what++) {
            due(of(CROWD).sure(1, what), 0);
            due(of(households(1)).sure(0, what), 0);
        }
        none(full, (x, what) -> x.sure(0, what), -2, -1, 3, LEAST, MOST);
        none(full, (x, h) -> x.sure(h, 0), -2, -1, 7, LEAST, MOST);
        none(of(CROWD), (x, what) -> x.sure(0, what), -2, -1, 3);
        none(of(CROWD), (x, h) -> x.sure(h, 0), -2, -1, 2);
    }

    private static void tooMany() {
        promise(27, "HOUSEHOLDS each of whom, were it alone not there, there would be MAPS (if there are none now), as bits; 0 with MAPS.");
        due(new FloorsByLot().tooMany(), 0);
        due(of(FULL).tooMany(), 0);
        due(of(ONE).tooMany(), 0);
        due(of(flats(6) + households(7)).tooMany(), 127);
        due(of(flats(5) + households(7)).tooMany(), 0);
        due(of(CROWD).tooMany(), 3);
        due(of(households(1)).tooMany(), 1);
        due(of(households(2)).tooMany(), 0);
        due(of(flats(8) + households(6) + "household 9;may : people < 9;").tooMany(), 64);
        due(of(flats(8) + "household 9;" + households(6) + "may : people < 9;").tooMany(), 1);
        due(of(flats(8) + "household 9;household 9;" + households(5) + "may : people < 9;").tooMany(), 0);
    }

    private static void best() {
        promise(28, "BEST, what 0: WORTH in sum (-2000000: no MAPS), 10 + h: the FLAT of a HOUSEHOLD (NONE: no such one, no MAPS). -2: what (10 to 16).");
        FloorsByLot x = of(FULL + "worth : floor;");
        due(x.best(0), 28);
        int[] flats = {1, 2, 3, 4, 5, 6, 7};
        for (int h = 0; h < 7; h++) {
            due(x.best(10 + h), flats[h]);
        }
        due(of(FULL + "worth : 999 * 999 * 999;").best(0), 7_000_000);
        due(of(FULL + "worth : 0 - 999 * 999 * 999;").best(0), -7_000_000);
        due(of(flats(2) + households(2) + "worth : 0 - 999 * 999 * 999;").best(0), -2_000_000);
        ofNoMap(FloorsByLot::best, NO_WORTH);
    }

    /** What best, fairest and stillest answer where there is nobody, no map, no such what. */
    private static void ofNoMap(OfOne call, int withoutMaps) {
        due(call.ask(new FloorsByLot(), 0), 0);
        due(call.ask(new FloorsByLot(), 10), NONE);
        due(call.ask(new FloorsByLot(), 16), NONE);
        FloorsByLot two = of(TALL);
        due(call.ask(two, 11), 1);
        none(two, call, NONE, 12, 13, 14, 15, 16);
        FloorsByLot crowd = of(CROWD);
        due(call.ask(crowd, 0), withoutMaps);
        none(crowd, call, NONE, 10, 11, 12, 16);
        for (FloorsByLot x : new FloorsByLot[] {two, crowd, new FloorsByLot(), of(FULL)}) {
            none(x, call, -2, -1, 1, 2, 9, 17, 18, LEAST, MOST);
        }
    }

    private static void fairest() {
        promise(29, "FAIREST, what 0: the least WORTH of one in it (0 without HOUSEHOLDS; -2000000: no MAPS), 10 + h likewise. -2: what.");
        FloorsByLot x = of(FULL + "worth : floor;");
        due(x.fairest(0), 1);
        for (int h = 0; h < 7; h++) {
            due(x.fairest(10 + h), h + 1);
        }
        due(of(FULL + "worth : 999 * 999 * 999;").fairest(0), 1_000_000);
        due(of(FULL + "worth : 0 - 999 * 999 * 999;").fairest(0), -1_000_000);
        due(of(flats(3)).fairest(0), 0);
        ofNoMap(FloorsByLot::fairest, NO_WORTH);
    }

    private static void stillest() {
        promise(30, "STILLEST, what 0: HARM (NONE: no MAPS), 10 + h likewise. -2: what.");
        FloorsByLot x = of(flats(2) + "household 1 noise 99 ears 98;household 1 noise 97 ears 99;");
        due(x.stillest(0), 97 * 98);
        due(x.stillest(10), 0);
        due(x.stillest(11), 1);
        FloorsByLot other = of(flats(2) + "household 1 noise 97 ears 99;household 1 noise 99 ears 98;");
        due(other.stillest(10), 1);
        due(of(FULL).stillest(0), 0);
        due(of(FULL).stillest(16), 6);
        ofNoMap(FloorsByLot::stillest, NONE);
    }

    private static void bestMending() {
        promise(31, "The FLAT by whose MENDING alone BEST is raised most, the first. NONE: by none, there are no MAPS now.");
        due(new FloorsByLot().bestMending(), NONE);
        due(of(FULL + "worth : 0 - faults;").bestMending(), NONE);
        String spoilt = "flat 0 0 size 1 faults 1;flat 1 0 size 1 faults 9;flat 2 0 size 1 faults 9;";
        due(of(spoilt + households(3) + "worth : 0 - faults;").bestMending(), 1);
        due(of(spoilt + households(3) + "worth : faults;").bestMending(), NONE);
        due(of(spoilt + households(3)).bestMending(), NONE);
        due(of("flat 0 0 size 1 faults 1;household 1;worth : 0 - faults;").bestMending(), 0);
        due(of(spoilt + households(1) + "worth : 0 - faults;").bestMending(), 0);
        due(of(spoilt + households(4) + "worth : 0 - faults;").bestMending(), NONE);
        due(of(spoilt + households(1) + "may : faults = 0;worth : 0 - faults;").bestMending(), NONE);
        due(of(spoilt + "worth : 0 - faults;").bestMending(), NONE);
        due(of(flats(7) + "flat 9 0 size 1 faults 1;" + households(1) + "worth : floor - faults * 5;").bestMending(), 7);
        due(of("flat 0 0 size 1 faults 9;household 1;may : faults > 0;worth : 9 - faults;").bestMending(), NONE);
    }

    private static void thisMap() {
        promise(32, "The number of the MAP in which they live now. NONE: one is AWAY, one lives where it MAY not.");
        due(new FloorsByLot().thisMap(), 0);
        FloorsByLot x = of(FULL);
        due(x.thisMap(), NONE);
        x.draws(40319);
        due(x.thisMap(), 40319);
        x.leaves(6);
        due(x.thisMap(), NONE);
        due(of(TALL + "lives 0 0;lives 1 1;").thisMap(), 0);
        due(of(TALL + "lives 0 2;lives 1 1;").thisMap(), 5);
        due(of(TALL + "lives 0 2;lives 1 1;may : floor > 0;").thisMap(), 1);
        due(of(TALL + "lives 0 2;lives 1 1;may : floor > 3;").thisMap(), NONE);
        due(of(TALL + "lives 0 2;lives 1 1;may : floor < 9;").thisMap(), NONE);
        due(of(TALL + "lives 0 2;").thisMap(), NONE);
        due(of(ONE + "lives 0 0;may : was = 0;").thisMap(), NONE);
    }

    private static void harm() {
        promise(33, "HARM as they live now.");
        due(new FloorsByLot().harm(), 0);
        FloorsByLot x = of(SWAP);
        due(x.harm(), 6);
        x.leaves(0);
        due(x.harm(), 0);
        due(of(SWAP + "may : 1 = 2;").harm(), 6);
    }

    private static void envies() {
        promise(34, "HOUSEHOLDS whom one ENVIES, as bits. -2.");
        FloorsByLot x = of(SWAP);
        due(x.envies(0), 2);
        due(x.envies(1), 1);
        none(x, FloorsByLot::envies, -2, -1, 2, 7, LEAST, MOST);
        due(new FloorsByLot().envies(0), -2);
        due(of(FULL).envies(6), 0);
        due(of(FULL).envies(7), -2);
    }

    private static void wouldSwap() {
        promise(35, "The first two who WOULD SWAP: 10 times one, and the other (the lesser first). NONE: none would.");
        due(new FloorsByLot().wouldSwap(), NONE);
        due(of(ONE + "lives 0 0;worth : 0 - was;").wouldSwap(), NONE);
        due(of(SWAP).wouldSwap(), 1);
        String seven = FULL + "lives 0 0;lives 1 1;lives 2 2;lives 3 3;lives 4 4;lives 5 5;lives 6 6;worth : 1 - was;";
        due(of(seven).wouldSwap(), 1);
        due(of(seven + "may : floor > 0;").wouldSwap(), 12);
        due(of(seven + "may : floor > 4;").wouldSwap(), 56);
        due(of(seven + "may : floor > 5;").wouldSwap(), NONE);
        due(of(seven + "may : floor = 0 or floor = 6;").wouldSwap(), 6);
    }

    private static void byRings() {
        promise(36, "The FLAT a HOUSEHOLD would have by RINGS. NONE: it is AWAY; -2.");
        FloorsByLot x = of(SWAP);
        due(x.byRings(0), 0);
        due(x.byRings(1), 1);
        due(x.household(0, 5), 1);
        none(x, FloorsByLot::byRings, -2, -1, 2, 7, LEAST, MOST);
        x.leaves(1);
        due(x.byRings(1), NONE);
        due(x.byRings(0), 1);
        due(new FloorsByLot().byRings(0), -2);
        due(of(FULL).byRings(6), NONE);
    }

    private static void ringsMany() {
        promise(37, "How many unlike rings (two and more) came round in them.");
        due(new FloorsByLot().ringsMany(), 0);
        due(of(FULL).ringsMany(), 0);
        due(of(SWAP).ringsMany(), 1);
        FloorsByLot x = of(SWAP);
        x.rings();
        due(x.ringsMany(), 0);
        String pairs = flats(4) + "household 1;household 2;household 3;household 4;lives 0 1;lives 1 0;lives 2 3;lives 3 2;";
        due(of(pairs + "worth : 0 - (floor - people + 1) * (floor - people + 1);").ringsMany(), 2);
        String round = flats(4) + "household 1;household 2;household 3;household 4;lives 0 1;lives 1 2;lives 2 3;lives 3 0;";
        due(of(round + "worth : 0 - (floor - people + 1) * (floor - people + 1);").ringsMany(), 1);
        String alone = flats(4) + "household 1;household 2;household 3;household 4;lives 0 0;lives 1 1;lives 2 2;lives 3 3;";
        due(of(alone + "worth : 0 - (floor - people + 1) * (floor - people + 1);").ringsMany(), 0);
    }

    private static void moving() {
        promise(38, "MOVING DAY to a MAP, what 0: FLOORS, 1: TRIPS (with a load). NONE: no such MAP; -2: what; -3: n is below 0.");
        FloorsByLot x = of(TALL + "lives 0 0;lives 1 1;");
        due(x.moving(0, 0), 0);
        due(x.moving(0, 1), 0);
        due(x.moving(1, 0), 9);
        due(x.moving(1, 1), 1);
        due(x.moving(5, 1), 1);
        none(x, (y, n) -> y.moving(n, 0), NONE, 6, 7, MOST);
        none(x, (y, n) -> y.moving(n, 1), -3, -1, LEAST);
        none(x, (y, what) -> y.moving(0, what), -2, -1, 2, LEAST, MOST);
        none(x, (y, what) -> y.moving(-1, what), -2, -1, 2);
        none(x, (y, what) -> y.moving(6, what), -2, -1, 2);
        due(new FloorsByLot().moving(0, 1), 0);
        due(new FloorsByLot().moving(1, 1), NONE);
        due(of(CROWD).moving(0, 0), NONE);
        due(of(CROWD).moving(-1, 0), -3);
    }

    private static void nearest() {
        promise(39, "The MAP to which MOVING DAY takes the fewest FLOORS (TRIPS aside), the first; only if there are 100 MAPS at most. NONE: none; -4: there are more.");
        due(new FloorsByLot().nearest(), 0);
        due(of(CROWD).nearest(), NONE);
        due(of(FULL).nearest(), -4);
        due(of(TALL + "lives 0 2;lives 1 0;").nearest(), 4);
        // all to flats of one floor: like floors, unlike trips
        due(of("flat 0 0 size 1;flat 0 1 size 1;flat 0 2 size 1;household 1;lives 0 1;").nearest(), 0);
        due(of("flat 1 0 size 1;flat 0 0 size 1;household 1;").nearest(), 1);
        // from floor 8 down to 0 and 8 empty ahead, or up to 9
        due(of("flat 8 0 size 1;flat 0 0 size 1;flat 9 0 size 1;household 1;lives 0 0;may : was = 0;").nearest(), 1);
        FloorsByLot hundred = of(flats(8) + "household 4;household 6;household 7;may : floor < people;");
        due(hundred.maps(), 4 * 5 * 5);
        due(hundred.nearest(), 0);
        hundred.draws(99);
        due(hundred.nearest(), 99);
        FloorsByLot oneMore = of(flats(8) + "household 2 age 6;household 2 age 5;household 4 age 7;household 5 age 5;may : floor < people or floor = age;");
        // the first in flat 6: 21 ways with the second in 5, 17 each with it in 0, 1; the first in 0 or 1: 10 and 13 ways each
        due(oneMore.maps(), 101);
        due(oneMore.nearest(), -4);
        oneMore.draws(0);
        due(oneMore.nearest(), -4);
    }

    private static void seen() {
        promise(40, "SEEN: how many MAPS. -2: the TRAY; -6; -4: not as many numbers as FLATS; -3: one is none such.");
        FloorsByLot x = of(TALL);
        none(x, FloorsByLot::seen, -2, NO_TRAYS);
        none(x, FloorsByLot::seen, -6, 0, 1, 2, 3);
        seenCodes(x, FloorsByLot::seen);
        tray(x, 3, -1, -1, -1);
        due(x.seen(3), 6);
        trayOf(x, 3, 0, -1, 99, 1);
        due(x.seen(3), 1);
        due(of(CROWD).seen(0), -6);
    }

    /** Trays that seen(), had() and wall() refuse. */
    private static void seenCodes(FloorsByLot x, OfOne call) {
        long[][] unlike = {{}, {-1}, {-1, -1}, {-1, -1, -1, -1}, new long[40], {77, 77}};
        for (long[] walls : unlike) {
            tray(x, 3, walls);
            due(call.ask(x, 3), -4);
        }
        for (long who : new long[] {2, -2, 7, 98, 100, 127, -128, 1L << 32, (1L << 32) + 99, Long.MAX_VALUE, Long.MIN_VALUE}) {
            for (int place = 0; place < 3; place++) {
                long[] walls = {-1, -1, -1};
                walls[place] = who;
                tray(x, 3, walls);
                due(call.ask(x, 3), -3);
            }
        }
    }

    private static void had() {
        promise(41, "The FLAT a HOUSEHOLD had in all of these. NONE: unlike ones, there are none; -2; else as seen().");
        FloorsByLot x = of(TALL);
        none(x, (y, t) -> y.had(t, 0), -2, NO_TRAYS);
        none(x, (y, h) -> y.had(0, h), -2, -1, 2, 7, LEAST, MOST);
        none(x, (y, t) -> y.had(t, 1), -6, 0, 1, 2, 3);
        seenCodes(x, (y, t) -> y.had(t, 1));
        none(x, (y, h) -> y.had(3, h), -2, -1, 2);
        tray(x, 3, -1, -1, -1);
        due(x.had(3, 0), NONE);
        tray(x, 3, -1, -1, 0);
        due(x.had(3, 0), 2);
        due(x.had(3, 1), NONE);
        tray(x, 3, -1, 99, 0);
        due(x.had(3, 1), 0);
        tray(x, 3, 0, 0, -1);
        due(x.had(3, 0), NONE);
        due(of(FULL).had(0, 6), -6);
    }

    private static void wall() {
        promise(42, "Of FLATS not seen that one of which the most frequent answer (a HOUSEHOLD, or nobody, there in most of these MAPS) is least frequent, the first. NONE: all are seen, there are no such MAPS; else as seen().");
        FloorsByLot x = of(TALL);
        none(x, FloorsByLot::wall, -2, NO_TRAYS);
        none(x, FloorsByLot::wall, -6, 0, 1, 2, 3);
        seenCodes(x, FloorsByLot::wall);
        tray(x, 3, -1, -1, -1);
        due(x.wall(3), 0);
        tray(x, 3, 0, -1, -1);
        due(x.wall(3), 1);
        tray(x, 3, 0, 1, 99);
        due(x.wall(3), NONE);
        tray(x, 3, 0, 1, -1);
        due(x.wall(3), 2);
        tray(x, 3, 0, 0, -1);
        due(x.wall(3), NONE);
        tray(x, 3, 99, 99, -1);
        due(x.wall(3), NONE);
        FloorsByLot nobody = of(flats(8) + households(1));
        tray(nobody, 0, -1, -1, -1, -1, -1, -1, -1, -1);
        due(nobody.wall(0), 0);
        FloorsByLot two = of(flats(3) + "household 1;household 2;may : people = 1 and floor = 0 or people = 2 and floor > 0;");
        // flat 0 is sure; flats 1 and 2 have household 1 as often as nobody
        tray(two, 0, -1, -1, -1);
        due(two.wall(0), 1);
        tray(two, 0, -1, 99, -1);
        due(two.wall(0), 0);
        FloorsByLot empty = new FloorsByLot();
        tray(empty, 0);
        due(empty.wall(0), NONE);
        due(of(CROWD).wall(0), -6);
    }

    private static void numbers() {
        promise(43, "A TRAY has n numbers of a sort, all 0 (in place of another one): 0.");
        FloorsByLot x = of("flat 0 0 size 1;household 1;household 1;may : people = 1 and age = 0;");
        tray(x, 0, 1, 1, 1);
        due(x.numbers(0, 1, 1), 0);
        due(x.write(0, 1, 1), -7);
        due(x.judge(0, 1), 0);
        due(x.write(0, 0, 70000), 4464);
        due(x.numbers(0, 3, 2), 0);
        due(x.judge(0, 0), 1);
        due(x.write(0, 0, 70000), 70000);
        promise(43, "-2: no such TRAY, sort; -3, and the TRAY stays: n is below 0 or above 40.");
        none(x, (y, t) -> y.numbers(t, 0, 1), -2, NO_TRAYS);
        none(x, (y, sort) -> y.numbers(0, sort, 1), -2, -1, 4, LEAST, MOST);
        none(x, (y, n) -> y.numbers(0, 0, n), -3, -1, 41, LEAST, MOST);
        none(x, (y, n) -> y.numbers(1, 0, n), -3, -1, 41, LEAST, MOST);
        due(x.write(0, 0, 70000), 70000);
        due(x.write(0, 2, 1), -7);
        due(x.write(1, 0, 1), -6);
        for (int sort = 0; sort < 4; sort++) {
            due(x.numbers(3, sort, 0), 0);
            due(x.write(3, 0, 1), -7);
            due(x.numbers(3, sort, 40), 0);
            due(x.write(3, 39, 1), 1);
        }
    }

    private static void write() {
        promise(44, "Number i of a TRAY is v, cut to its sort: as it is there. -2: no such TRAY; -6; -7.");
        FloorsByLot x = new FloorsByLot();
        none(x, (y, t) -> (int) y.write(t, 0, 5), -2, NO_TRAYS);
        none(x, (y, t) -> (int) y.write(t, 0, 5), -6, 0, 1, 2, 3);
        for (int t = 0; t < 4; t++) {
            x.numbers(t, t, 3);
        }
        none(x, (y, i) -> (int) y.write(2, i, 5), -7, -1, 3, 40, LEAST, MOST);
        long v = 0x8182838485868788L;
        due(x.write(0, 2, v), (byte) 0x88);
        due(x.write(1, 2, v), (short) 0x8788);
        due(x.write(2, 2, v), 0x85868788);
        due(x.write(3, 2, v), v);
        long[][] cuts = {{128, -128}, {255, -1}, {256, 0}, {-129, 127}, {-256, 0}, {127, 127}, {-128, -128}};
        for (long[] cut : cuts) {
            due(x.write(0, 0, cut[0]), cut[1]);
        }
        due(x.write(1, 0, 32768), -32768);
        due(x.write(1, 0, 65536), 0);
        due(x.write(2, 0, 1L << 31), LEAST);
        due(x.write(2, 0, 1L << 32), 0);
    }

    private static void lists() {
        promise(45, "Who lives in FLATS (99 nobody) comes into a TRAY from its first place on, as many as it has places: how many. -2; -6.");
        FloorsByLot x = of(TALL + "lives 0 2;lives 1 0;");
        none(x, FloorsByLot::lists, -2, NO_TRAYS);
        none(x, FloorsByLot::lists, -6, 0, 1, 2, 3);
        tray(x, 0, 7, 7, 7);
        due(x.lists(0), 3);
        due(x.seen(0), 1);
        due(x.had(0, 0), 2);
        due(x.had(0, 1), 0);
        x.numbers(1, 0, 0);
        due(x.lists(1), 0);
        x.numbers(1, 0, 2);
        due(x.lists(1), 2);
        tray(x, 2, 7, 7, 7, 2001);
        due(x.lists(2), 3);
        tray(x, 3, new long[40]);
        due(x.lists(3), 3);
        FloorsByLot one = of(ONE);
        // behind the lists the other places are as they were: 99 can't be, 0 moves in, 2000 spoils
        tray(one, 0, 0, 2000, 2000);
        due(one.lists(0), 1);
        due(one.judge(0, 0), 0);
        due(one.judge(0, 1), 1);
        one.write(0, 0, 0);
        due(one.perform(0), 3);
        due(one.flat(0, 4), 2);
        FloorsByLot none = new FloorsByLot();
        tray(none, 0, 5, 5);
        due(none.lists(0), 0);
    }

    private static void image() {
        promise(46, "An IMAGE is made: 0. -2.");
        FloorsByLot x = of(TALL);
        none(x, FloorsByLot::image, -2, -1, 2, LEAST, MOST);
        due(x.restore(0), -5);
        due(x.restore(1), -5);
        due(x.image(0), 0);
        due(x.restore(1), -5);
        due(x.image(1), 0);
        x.draws(3);
        due(x.image(0), 0);
        due(x.count(6), 1);
        due(x.restore(1), 0);
        due(x.count(3), 0);
        due(x.restore(0), 0);
        due(x.count(3), 1);
    }

    private static void restore() {
        promise(47, "All that is in an IMAGE is as it was: 0. -2; -5: none was made.");
        FloorsByLot x = of(FOUR);
        none(x, FloorsByLot::restore, -2, -1, 2, LEAST, MOST);
        none(x, FloorsByLot::restore, -5, 0, 1);
        x.spoils(3);
        x.image(1);
        none(x, FloorsByLot::restore, -5, 0);
        x.tower(0);
        x.feed(1, 2, 3, 4, 5);
        x.numbers(0, 0, 3);
        due(x.restore(1), 0);
        due(x.count(0), 4);
        due(x.count(1), 3);
        due(x.count(3), 5);
        due(x.count(5), 2);
        due(x.count(6), 0);
        due(x.count(7), 20);
        due(x.count(8), 12);
        due(x.write(0, 2, 9), 9);
        due(x.may(0, 2), 0);
        due(x.worth(1, 3), -5);
        due(x.restore(1), 0);
        due(x.flat(3, 4), 2);
    }

    private static void count() {
        promise(48, "0 FLATS, 1 HOUSEHOLDS, 2 those AWAY, 3 QUARTER, 4 EMPTY FLATS, 5 FAULTS of all, 6 calls that can be UNDONE, 7 bytes on THE TAPE, 8 LINES. NONE for others.");
        FloorsByLot x = of(FULL.replace("size 1", "size 1 faults 9") + "lives 6 7;quarter 999;");
        x.feed(0, 0, 0, 0, 0);
        int[] counts = {8, 7, 6, 999, 7, 72, 0, 20, 17};
        for (int what = 0; what < 9; what++) {
            due(x.count(what), counts[what]);
        }
        x.draws(0);
        due(x.count(2), 0);
        due(x.count(3), 1000);
        due(x.count(4), 1);
        due(x.count(6), 1);
        for (FloorsByLot y : new FloorsByLot[] {x, new FloorsByLot()}) {
            none(y, FloorsByLot::count, NONE, -1, 9, 10, LEAST, MOST);
        }
        due(of(CROWD + "lives 1 0;").count(4), 0);
        due(of(CROWD + "lives 1 0;").count(2), 1);
        due(of(households(7)).count(4), 0);
    }
}
