/** Each promise of the document by its number: ordinary inputs, edges, wrong inputs, with answers reckoned by hand. */
public final class PromisesTest extends Told {
    private static int latest = 0;

    public static void main(String[] args) {
        newObject();
        feed();
        tower();
        faults();
        flatAndHousehold();
        times();
        may();
        worth();
        draws();
        rings();
        moves();
        leavesSpoilsMends();
        undo();
        judge();
        perform();
        year();
        mapsAndInMap();
        withNearAllElse();
        likeliestSureTooMany();
        best();
        fairest();
        stillest();
        bestMending();
        thisMap();
        harmEnviesSwap();
        byRings();
        moving();
        nearest();
        seen();
        had();
        wall();
        trays();
        lists();
        images();
        count();
        end();
    }

    private static void due(int promise, long got, long want) {
        if (promise != latest) {
            latest = promise;
            promise(promise, "");
        }
        due(got, want);
    }

    private static void newObject() {
        FloorsByLot x = new FloorsByLot();
        for (int what = 0; what <= 8; what++) {
            due(1, x.count(what), 0);
        }
        due(1, x.maps(), 1);
        due(1, x.thisMap(), 0);
        due(1, x.fault(0), 0);
        due(1, x.fault(1), NONE);
        due(1, x.image(0), 0);
        due(1, x.restore(0), 0);
        due(1, x.seen(0), -6);
        due(1, x.tower(0), 0);
        due(1, x.flat(0, 0), -8);
        due(1, x.nearest(), 0);
        due(1, x.moving(0, 1), 0);
        due(1, x.allElse(), 1);
    }

    private static void feed() {
        FloorsByLot x = new FloorsByLot();
        for (int n = 1; n <= 45; n++) {
            due(2, x.feed(0x20202020, 0x20202020, 0x20202020, 0x0a0a0a0a, 0x20202020), 20 * n);
        }
        due(2, x.feed(0, 0, 0, 0, 0), -5);
        due(2, x.count(7), 900);
        due(2, x.tower(900), 0);
        due(2, x.feed(0x71756172, 0x74657220, 0x3132333b, 0x71756172, 0x74657220), 20);
        due(2, x.feed(0x3435363b, 0xffffffff, 0x80000000, 0, 0), 40);
        due(2, x.tower(24), 2);
        due(2, x.count(3), 456);
        x.feed(0xe9202020, 0, 0, 0, 0);
        due(2, x.tower(20), -31);
        due(2, x.fault(1), 0);
    }

    private static void tower() {
        FloorsByLot x = of("quarter 7;");
        due(3, x.spoils(0), -11);
        due(3, x.draws(3), 0);
        due(3, x.count(6), 1);
        due(3, x.tower(1), -3);
        due(3, x.tower(-1), -3);
        x.feed(0x71756172, 0x74657220, 0x393b3b3b, 0, 0);
        due(3, x.tower(21), -3);
        due(3, x.tower(Integer.MIN_VALUE), -3);
        due(3, x.count(7), 20);
        due(3, x.tower(11), -32);
        due(3, x.count(7), 0);
        due(3, x.count(3), 8);
        due(3, x.count(6), 1);
        due(3, x.count(8), 1);
        x.feed(0x71756172, 0x74657220, 0x393b3b3b, 0, 0);
        due(3, x.tower(10), 1);
        due(3, x.count(7), 0);
        due(3, x.count(3), 9);
        due(3, x.count(6), 0);
        due(3, read(x, SWAP), 7);
        due(3, read(x, " \n "), 0);
        due(3, x.count(0), 0);
        due(3, x.count(3), 0);
        due(3, read(x, "may : 1 = 2;may : 1 = 1;quarter 3;quarter 004;flat 0 0 size 1 light 3 faults 2 light 4;household 1 age 5 age 6;"), 6);
        due(3, x.may(0, 0), 1);
        due(3, x.flat(0, 3), 4);
        due(3, x.household(0, 4), 6);
        due(3, x.count(3), 4);
        due(3, read(x, "flat0 0size1;household1noise2ears3;lives\n0 0;may:not1=2and[1<2];worth:floor*2;"), 5);
        due(3, x.household(0, 2), 3);
    }

    private static void fault(String text, int kind, int place) {
        FloorsByLot x = of("quarter 3;");
        due(3, read(x, text), -30 - kind);
        due(4, x.fault(0), kind);
        due(4, x.fault(1), place);
        due(4, x.fault(2), NONE);
        due(4, x.fault(-1), NONE);
        due(3, x.count(3), 3);
        x.tower(-1);
        due(4, x.fault(0), kind);
        due(3, read(x, ""), 0);
        due(4, x.fault(0), 0);
        due(4, x.fault(1), NONE);
    }

    private static void faults() {
        String flat = "flat 0 0 size 1;";
        String household = "household 1;";
        fault("#", 1, 0);
        fault("quarter 1\t;", 1, 9);
        fault("quarter 0001;", 1, 8);
        fault("worth : 1 + 12345;", 1, 12);
        fault("quarteR 1;", 2, 0);
        fault("quarter R;", 1, 8);
        fault("quarter", 2, 7);
        fault("quarter  ", 2, 9);
        fault("quarter 1", 2, 9);
        fault("quarter 1 1;", 2, 10);
        fault(";", 2, 0);
        fault("quarter 1;;", 2, 10);
        fault("12;", 2, 0);
        fault("flat 0 0 size 1 noise 3;", 2, 16);
        fault("flat 0 0 light 1;", 2, 9);
        fault("household 1 light 1;", 2, 12);
        fault("household 1 people 1;", 2, 12);
        fault("household 1 ears;", 2, 16);
        fault("may : 1 < 2 < 3;", 2, 12);
        fault("may : (1 = 1);", 2, 9);
        fault("may : [1] = 1;", 2, 8);
        fault("may : not 1;", 2, 11);
        fault("may : 1 = 1 and;", 2, 15);
        fault("may : 1 = 1 or or;", 2, 15);
        fault("worth : 1 = 1;", 2, 10);
        fault("worth : - 1;", 2, 8);
        fault("worth : not;", 2, 8);
        fault("worth : 1 +;", 2, 11);
        fault("worth : 1 2;", 2, 10);
        fault("worth : ();", 2, 9);
        fault("worth 1;", 2, 6);
        fault("flat 10 ,;", 3, 5);
        fault("flat 9 4 size 1;", 3, 7);
        fault("flat 9 3 size 99 light 9 faults 10;", 3, 32);
        fault("flat 9 3 size 0;", 3, 14);
        fault("household 99 noise 99 ears 99 stairs 99 age 100;", 3, 44);
        fault("household 0;", 3, 10);
        fault("flat 1 2 size 1;flat 1 1 size 1;flat 1 2 size 1;", 3, 39);
        fault("household 1;flat 0 0 size 1;lives 0 0;household 1;lives 1 0;", 3, 58);
        fault("household 1;flat 0 0 size 1;lives 0 0;flat 1 0 size 1;lives 0 1;", 3, 60);
        fault("household 1;lives 0 0;flat 0 0 size 1;", 3, 20);
        fault(flat + "lives 0 0;household 1;", 3, 22);
        fault(household.repeat(8), 4, 84);
        fault(household.repeat(7) + "household", 4, 84);
        StringBuilder nine = new StringBuilder();
        for (int f = 0; f < 9; f++) {
            nine.append("flat ").append(f).append(" 0 size 1;");
        }
        fault(nine.toString(), 4, 128);
        fault("may : not [not [not [not 1 = 1]]];", 4, 21);
        fault("may : [[[[[[(1) = 1]]]]]];", 4, 12);
        fault("may : not not not not not not [1 = 1];", 4, 30);
        fault("worth : ((((((not;", 2, 14);
        fault("worth : 1 + ((((((1)))))) + (((((((1)))))));", 4, 34);
        due(3, read(new FloorsByLot(), "may : not not not not not not 1 = 1 and [[[[[(1) = 1]]]]];"), 1);
        due(3, read(new FloorsByLot(), "worth : ((((((1)))))) + ((((((1))))));"), 1);
        due(3, read(new FloorsByLot(), household.repeat(7) + nine.substring(0, 128)), 15);
    }

    private static void flatAndHousehold() {
        FloorsByLot x = of("flat 9 3 size 99 light 8 faults 7;flat 0 0 size 1;household 99 noise 1 ears 2 stairs 3 age 4;household 1;lives 0 1;");
        int[] first = {9, 3, 99, 8, 7, NONE};
        int[] second = {0, 0, 1, 0, 0, 0};
        int[] people = {99, 1, 2, 3, 4, 1};
        int[] others = {1, 0, 0, 0, 0, NONE};
        for (int what = 0; what < 6; what++) {
            due(5, x.flat(0, what), first[what]);
            due(5, x.flat(1, what), second[what]);
            due(6, x.household(0, what), people[what]);
            due(6, x.household(1, what), others[what]);
        }
        int[] none = {-1, 2, 6, 7, 8, Integer.MAX_VALUE, Integer.MIN_VALUE};
        for (int n : none) {
            due(5, x.flat(n, 0), -8);
            due(6, x.household(n, 0), -8);
        }
        due(5, x.flat(0, -1), -8);
        due(5, x.flat(0, 6), -8);
        due(6, x.household(0, -1), -8);
        due(6, x.household(0, 6), -8);
    }

    private static void times() {
        FloorsByLot x = of(SWAP);
        due(7, x.times(0, 0), 0);
        x.draws(0);
        x.draws(0);
        x.draws(1);
        due(7, x.times(0, 0), 2);
        due(7, x.times(0, 1), 1);
        due(7, x.times(1, 0), 1);
        due(7, x.times(1, 1), 2);
        due(7, x.times(2, 0), -2);
        due(7, x.times(0, 2), -2);
        due(7, x.times(-1, 0), -2);
        due(7, x.times(0, -1), -2);
        x.rings();
        x.leaves(0);
        x.moves(0, 0);
        due(7, x.times(0, 0) + x.times(0, 1), 3);
        x.undo(x.count(6));
        due(7, x.times(0, 0), 0);
    }

    private static int mayOf(String truth) {
        return of("flat 2 1 size 3 light 4 faults 5;household 6 noise 7 ears 8 stairs 9 age 10;lives 0 0;quarter 12;may : " + truth + ";").may(0, 0);
    }

    private static void may() {
        due(8, of("flat 0 0 size 1;household 1;").may(0, 0), 1);
        due(8, mayOf("1 = 1"), 1);
        due(8, mayOf("1 = 2"), 0);
        due(8, mayOf("1 < 1"), 0);
        due(8, mayOf("1 < 2"), 1);
        due(8, mayOf("2 > 1"), 1);
        due(8, mayOf("1 > 1"), 0);
        due(8, mayOf("1 = 1 or 1 = 1 and 1 = 2"), 1);
        due(8, mayOf("1 = 2 and 1 = 2 or 1 = 1"), 1);
        due(8, mayOf("[1 = 1 or 1 = 1] and 1 = 2"), 0);
        due(8, mayOf("not 1 = 2 and 1 = 2"), 0);
        due(8, mayOf("not [1 = 2 and 1 = 2]"), 1);
        due(8, mayOf("not 1 = 1 or 1 = 1"), 1);
        due(8, mayOf("not not 1 = 1"), 1);
        due(8, mayOf("1 + 1 = 2 and 3 - 1 - 1 = 1 and 2 * 3 = 6"), 1);
        due(8, mayOf("floor = 2 and column = 1 and size = 3 and light = 4 and faults = 5"), 1);
        due(8, mayOf("people = 6 and noise = 7 and ears = 8 and stairs = 9 and age = 10"), 1);
        due(8, mayOf("was = 1 and times = 0 and quarter = 12"), 1);
        FloorsByLot x = of(FOUR);
        due(8, x.may(0, 2), 0);
        due(8, x.may(2, 1), 1);
        due(8, x.may(3, 0), -2);
        due(8, x.may(0, 4), -2);
        due(8, x.may(-1, 0), -2);
        due(8, x.may(0, -1), -2);
    }

    private static int worthOf(String sum) {
        return of("flat 2 1 size 3 light 4 faults 5;household 6 noise 7 ears 8 stairs 9 age 10;worth : " + sum + ";").worth(0, 0);
    }

    private static void worth() {
        due(9, of("flat 0 0 size 1;household 1;").worth(0, 0), 0);
        due(9, worthOf("2 + 3 * 4"), 14);
        due(9, worthOf("(2 + 3) * 4"), 20);
        due(9, worthOf("10 - 2 - 3"), 5);
        due(9, worthOf("10 - (2 - 3)"), 11);
        due(9, worthOf("2 - 3 * 4 * 5 + 1"), -57);
        due(9, worthOf("999 * 999"), 998001);
        due(9, worthOf("999 * 999 * 999"), 1000000);
        due(9, worthOf("999 * 999 * 999 - 1"), 999999);
        due(9, worthOf("999 * 999 + 999 + 999 + 999 - 1"), 999999);
        due(9, worthOf("0 - 999 * 999 * 999"), -1000000);
        due(9, worthOf("0 - 999 * 999 - 999 - 999 - 999 + 2"), -999998);
        due(9, worthOf("(0 - 999 * 999) * (999 * 999) + 1"), -999999);
        due(9, worthOf("floor + column * 10 + size * 100 + light * 100 * 10"), 4312);
        due(9, worthOf("was + times + quarter"), 0);
        FloorsByLot x = of("flat 0 0 size 1;flat 1 0 size 1;household 1;lives 0 1;quarter 999;worth : was * 5 + times * 10 + quarter * 100;");
        due(9, x.worth(0, 0), 99900);
        due(9, x.worth(0, 1), 99905);
        x.draws(0);
        due(9, x.count(3), 1000);
        due(9, x.worth(0, 0), 15);
        due(9, x.worth(0, 1), 0);
        due(9, x.worth(1, 0), -2000000);
        due(9, x.worth(0, 2), -2000000);
        due(9, x.worth(-1, 0), -2000000);
        due(9, x.worth(0, -1), -2000000);
        x.spoils(0);
        due(9, of("flat 0 0 size 1 faults 3;household 1;worth : faults;").worth(0, 0), 3);
    }

    private static void draws() {
        FloorsByLot x = of(FOUR);
        due(10, x.draws(-1), -3);
        due(10, x.count(6), 0);
        due(10, x.draws(7), 3);
        due(10, x.household(0, 5), 3);
        due(10, x.household(1, 5), 2);
        due(10, x.household(2, 5), 1);
        due(10, x.count(3), 6);
        due(10, x.count(6), 1);
        due(10, x.times(2, 1), 1);
        due(10, x.draws(Integer.MAX_VALUE), 3);
        due(10, x.times(2, 1), 2);
        due(10, x.undo(2), 0);
        due(10, x.household(2, 5), NONE);
        FloorsByLot none = of("flat 0 0 size 1;household 1;household 1;");
        due(10, none.draws(0), -5);
        due(10, none.draws(-1), -3);
        due(10, none.count(3), 0);
        FloorsByLot was = of("flat 0 0 size 1;flat 1 0 size 1;household 1;lives 0 0;may : was = 0;");
        due(10, was.draws(0), 0);
        due(10, was.household(0, 5), 1);
        due(10, was.draws(0), 0);
        due(10, was.household(0, 5), 0);
        FloorsByLot nobody = of("flat 0 0 size 1;");
        due(10, nobody.draws(5), 0);
        due(10, nobody.count(3), 1);
    }

    private static void rings() {
        FloorsByLot x = of(SWAP);
        due(11, x.rings(), 2);
        due(11, x.household(0, 5), 0);
        due(11, x.household(1, 5), 1);
        due(11, x.count(6), 1);
        due(11, x.rings(), 0);
        due(11, x.count(6), 1);
        due(11, x.undo(1), 0);
        due(11, x.household(0, 5), 1);
        FloorsByLot three = of("flat 0 0 size 1;flat 1 0 size 2;flat 2 0 size 3;flat 3 0 size 9;household 2;household 3;household 1;household 4;"
            + "lives 0 0;lives 1 1;lives 2 2;worth : 0 - (size - people) * (size - people);");
        due(11, three.rings(), 3);
        due(11, three.household(0, 5), 1);
        due(11, three.household(1, 5), 2);
        due(11, three.household(2, 5), 0);
        due(11, three.household(3, 5), NONE);
        due(11, three.flat(3, 5), NONE);
        FloorsByLot alike = of("flat 0 0 size 1;flat 1 0 size 1;household 1;household 1;lives 0 1;lives 1 0;");
        due(11, alike.rings(), 0);
        due(11, alike.household(0, 5), 1);
        FloorsByLot unlawful = of("flat 0 0 size 1;flat 1 0 size 1;household 1;household 1;lives 0 1;lives 1 0;may : 1 = 2;worth : floor * (1 - was);");
        due(11, unlawful.rings(), 0);
        FloorsByLot own = of("flat 0 0 size 1;flat 1 0 size 1;household 1;household 2;lives 0 0;lives 1 1;may : floor = people;worth : 0 - was;");
        due(11, own.rings(), 0);
        FloorsByLot giveWay = of("flat 0 0 size 1;flat 1 0 size 1;household 1;household 2;lives 0 0;lives 1 1;may : floor = 2 - people;worth : 0 - was;");
        due(11, giveWay.rings(), 2);
    }

    private static void moves() {
        FloorsByLot x = of(TALL + "lives 0 1;may : times = 0 and floor * people < 4 or age > 0 or people > 5;");
        due(12, x.moves(0, 0), 3);
        due(12, x.household(0, 5), 0);
        due(12, x.flat(1, 5), NONE);
        due(12, x.moves(1, 1), 3);
        due(12, x.moves(0, 2), -13);
        due(12, x.moves(0, 1), -12);
        due(12, x.moves(0, 0), -12);
        due(12, x.moves(2, 2), -11);
        due(12, x.moves(0, 3), -11);
        due(12, x.moves(-1, 0), -11);
        due(12, x.moves(0, -1), -11);
        due(12, x.count(6), 2);
        due(12, x.undo(2), 0);
        due(12, x.household(0, 5), 1);
        due(12, x.household(1, 5), NONE);
        due(12, of(TALL + "lives 0 2;").moves(0, 1), 6);
        due(12, of(TALL).moves(0, 2), 9);
    }

    private static void leavesSpoilsMends() {
        FloorsByLot x = of(TALL + "lives 0 1;");
        due(13, x.leaves(0), 1);
        due(13, x.household(0, 5), NONE);
        due(13, x.count(2), 2);
        due(13, x.leaves(0), -12);
        due(13, x.leaves(1), -12);
        due(13, x.leaves(2), -11);
        due(13, x.leaves(-1), -11);
        due(13, x.count(6), 1);
        due(13, x.undo(1), 0);
        due(13, x.household(0, 5), 1);
        for (int n = 1; n <= 9; n++) {
            due(14, x.spoils(2), n);
        }
        due(14, x.spoils(2), -12);
        due(14, x.flat(2, 4), 9);
        due(14, x.spoils(3), -11);
        due(14, x.spoils(-1), -11);
        due(14, x.count(6), 9);
        due(15, x.mends(2), 9);
        due(15, x.flat(2, 4), 0);
        due(15, x.mends(2), -12);
        due(15, x.mends(3), -11);
        due(15, x.mends(-1), -11);
        due(15, x.count(6), 10);
        due(15, x.undo(1), 9);
        due(15, x.flat(2, 4), 9);
    }

    private static void undo() {
        FloorsByLot x = of(TALL);
        due(16, x.undo(1), -3);
        due(16, x.undo(0), -3);
        due(16, x.undo(-1), -3);
        for (int n = 0; n < 13; n++) {
            x.draws(n);
        }
        due(16, x.count(6), 10);
        due(16, x.undo(11), -3);
        due(16, x.undo(0), -3);
        due(16, x.count(3), 13);
        due(16, x.undo(4), 6);
        due(16, x.count(3), 9);
        x.spoils(0);
        due(16, x.count(6), 7);
        due(16, x.undo(8), -3);
        due(16, x.undo(7), 0);
        due(16, x.count(3), 3);
        due(16, x.count(5), 0);
        due(16, x.thisMap(), 2);
        due(16, x.undo(1), -3);
    }

    private static void judge() {
        FloorsByLot x = of(FOUR);
        due(17, x.judge(0, 0), -6);
        due(17, x.judge(4, 0), -2);
        due(17, x.judge(-1, 0), -2);
        due(17, x.judge(0, 4), -2);
        due(17, x.judge(0, -1), -2);
        x.numbers(0, 0, 0);
        due(17, x.judge(0, 0), NONE);
        due(17, x.judge(0, 1), 0);
        due(17, x.judge(0, 2), 5);
        due(17, x.judge(0, 3), 2);
        tray(x, 1, 4000, 1000, 2001, 2101, 3000, 1002, 4001, 3001);
        due(17, x.judge(1, 0), 7);
        due(17, x.judge(1, 1), 1);
        due(17, x.judge(1, 2), 7);
        due(17, x.judge(1, 3), 3);
        due(17, x.count(3), 5);
        due(17, x.count(2), 1);
        due(17, x.count(6), 0);
        tray(x, 1, 1000, 201, 1000);
        due(17, x.judge(1, 0), 2);
        due(17, x.judge(1, 1), 2);
        due(17, x.judge(1, 3), 2);
        long[][] whys = {
            {-1, 1}, {700, 1}, {999, 1}, {1003, 1}, {1007, 1}, {1999, 1}, {2004, 1}, {2099, 1}, {2104, 1}, {2999, 1}, {3001, 1},
            {3999, 1}, {4, 1}, {99, 1}, {300, 1}, {699, 1}, {Long.MIN_VALUE, 1}, {100, 2}, {101, 2}, {1002, 2}, {2100, 2}, {2, 3},
            {202, 3}, {203, 3}, {3, 0}, {102, 0}, {1000, 0}, {2003, 0}, {2103, 0}, {3000, 0}, {4000, 0}, {Long.MAX_VALUE, 0}
        };
        for (long[] why : whys) {
            tray(x, 2, why[0]);
            due(17, x.judge(2, 1), why[1]);
            due(17, x.judge(2, 0), why[1] == 0 ? NONE : 0);
        }
        FloorsByLot none = of("flat 0 0 size 1 faults 9;household 1;household 1;");
        tray(none, 0, 4000);
        due(17, none.judge(0, 1), 2);
        tray(none, 0, 2000);
        due(17, none.judge(0, 1), 2);
    }

    private static void perform() {
        FloorsByLot x = of(FOUR);
        due(18, x.perform(0), -6);
        due(18, x.perform(4), -2);
        due(18, x.perform(-1), -2);
        tray(x, 0, 3, 2000, 2000, 1000, 1000, 4000);
        due(18, x.perform(0), 4);
        due(18, x.household(0, 5), NONE);
        due(18, x.flat(0, 4), 2);
        due(18, x.count(3), 5);
        due(18, x.count(6), 1);
        due(18, x.undo(1), 0);
        due(18, x.household(0, 5), 1);
        due(18, x.flat(0, 4), 0);
        tray(x, 0, 100);
        due(18, x.perform(0), 0);
        due(18, x.count(6), 0);
        x.numbers(0, 0, 0);
        due(18, x.perform(0), 0);
        due(18, x.count(6), 0);
        FloorsByLot still = of("flat 0 0 size 1;household 1;lives 0 0;");
        tray(still, 0, 3000, 3000);
        due(18, still.perform(0), 2);
        due(18, still.count(6), 0);
        tray(still, 0, 3000, 2000, 2100);
        due(18, still.perform(0), 3);
        due(18, still.count(6), 1);
        FloorsByLot swap = of(SWAP);
        tray(swap, 0, 3000);
        due(18, swap.perform(0), 1);
        due(18, swap.count(6), 1);
        tray(swap, 0, 4000 + (1L << 32) + 1, Long.MAX_VALUE, 4000 + (1L << 40));
        due(18, swap.perform(0), 3);
        due(18, swap.times(0, 1), 2);
        due(18, swap.times(0, 0), 1);
    }

    private static void year() {
        FloorsByLot x = of(FOUR);
        due(19, x.year(1, 0), -3);
        due(19, x.year(1, 31), -3);
        due(19, x.year(1, -1), -3);
        due(19, new FloorsByLot().year(1, 31), -3);
        due(19, of("flat 0 0 size 1;").year(1, 1), -5);
        due(19, of("household 1;").year(1, 1), -5);
        yearLike(FOUR, 1, 30);
        yearLike(SWAP, 2026, 30);
        yearLike(TALL + "lives 0 1;", -77, 29);
        yearLike(TALL + "lives 0 1;may : faults < 2;", Integer.MIN_VALUE, 30);
        yearLike("flat 0 0 size 1 faults 8;household 1;household 1;lives 1 0;", 99, 30);
        for (int seed = 0; seed < 40; seed++) {
            yearLike(FOUR, seed, 1);
        }
    }

    /** A year is so many deeds, each tried in a tray of its own. */
    private static void yearLike(String text, int seed, int times) {
        FloorsByLot year = of(text);
        FloorsByLot single = of(text);
        int x = seed;
        int done = 0;
        boolean some = false;
        for (int n = 0; n < times; n++) {
            int[] lots = new int[3];
            int kind = (x = 1103515245 * x + 12345) >>> 16;
            int more = kind % 5 == 3 ? 0 : kind % 5 == 2 ? 2 : 1;
            for (int k = 0; k < more; k++) {
                lots[k] = (x = 1103515245 * x + 12345) >>> 16;
            }
            int flats = single.count(0);
            switch (kind % 5) {
                case 2 -> tray(single, 0, lots[0] % single.count(1) * 100 + lots[1] % flats);
                case 3 -> tray(single, 0, 3000);
                case 4 -> tray(single, 0, 2000 + lots[0] % flats);
                default -> tray(single, 0, 4000 + lots[0]);
            }
            int undoable = single.count(6);
            done += single.perform(0);
            some |= single.count(6) > undoable || undoable == 10;
        }
        due(19, year.year(seed, times), done);
        for (int h = 0; h < year.count(1); h++) {
            due(19, year.household(h, 5), single.household(h, 5));
            for (int f = 0; f < year.count(0); f++) {
                due(19, year.times(h, f), single.times(h, f));
                due(19, year.flat(f, 4), single.flat(f, 4));
            }
        }
        due(19, year.count(3), single.count(3));
        due(19, year.count(6), some ? 1 : 0);
    }

    private static void mapsAndInMap() {
        FloorsByLot x = of(FOUR);
        due(20, x.maps(), 4);
        int[][] maps = {{0, 2, 1}, {0, 3, 1}, {3, 0, 1}, {3, 2, 1}};
        for (int n = 0; n < 4; n++) {
            for (int h = 0; h < 3; h++) {
                due(21, x.inMap(n, h), maps[n][h]);
            }
        }
        due(21, x.inMap(4, 0), NONE);
        due(21, x.inMap(Integer.MAX_VALUE, 0), NONE);
        due(21, x.inMap(-1, 0), -3);
        due(21, x.inMap(0, 3), -2);
        due(21, x.inMap(-1, -1), -2);
        StringBuilder full = new StringBuilder();
        for (int f = 0; f < 8; f++) {
            full.append("flat ").append(f).append(" 0 size 1;");
        }
        full.append("household 1;".repeat(7));
        FloorsByLot all = of(full.toString());
        due(20, all.maps(), 40320);
        due(21, all.inMap(0, 6), 6);
        due(21, all.inMap(1, 6), 7);
        due(21, all.inMap(40319, 0), 7);
        due(21, all.inMap(40319, 6), 1);
        due(21, all.inMap(40320, 6), NONE);
        due(20, of("household 1;").maps(), 0);
        due(20, of("flat 0 0 size 1;household 1;household 1;").maps(), 0);
        due(20, of("flat 0 0 size 1;household 1;may : 1 = 2;").maps(), 0);
        due(21, of("household 1;").inMap(0, 0), NONE);
    }

    private static void withNearAllElse() {
        FloorsByLot x = of(FOUR);
        int[][] many = {{2, 0, 0, 2}, {1, 0, 2, 1}, {0, 4, 0, 0}};
        for (int h = 0; h < 3; h++) {
            for (int f = 0; f < 4; f++) {
                due(22, x.with(h, f), many[h][f]);
            }
        }
        due(22, x.with(3, 0), -2);
        due(22, x.with(0, 4), -2);
        due(22, x.with(-1, 0), -2);
        due(22, x.with(0, -1), -2);
        due(23, x.near(0, 2), 2);
        due(23, x.near(2, 0), 2);
        due(23, x.near(1, 2), 3);
        due(23, x.near(0, 1), 0);
        due(23, x.near(0, 0), -2);
        due(23, x.near(0, 3), -2);
        due(23, x.near(-1, 0), -2);
        due(23, of("flat 0 0 size 1;flat 2 0 size 1;household 1;household 1;").near(0, 1), 0);
        due(23, of("flat 0 0 size 1;flat 1 1 size 1;household 1;household 1;").near(0, 1), 0);
        due(23, of("flat 0 0 size 1;flat 1 0 size 1;flat 2 0 size 1;household 1;household 1;").near(0, 1), 4);
        due(24, x.allElse(), 3);
        due(24, of(SWAP).allElse(), 1);
        due(24, of(TALL).allElse(), 6);
        due(24, of(TALL + "lives 0 0;").allElse(), 4);
        due(24, of(TALL + "lives 0 0;lives 1 1;").allElse(), 3);
        due(24, of("household 1;").allElse(), 0);
    }

    private static void likeliestSureTooMany() {
        FloorsByLot x = of(FOUR);
        due(25, x.likeliest(0), 0);
        due(25, x.likeliest(1), 2);
        due(25, x.likeliest(2), 1);
        due(25, x.likeliest(3), -2);
        due(25, x.likeliest(-1), -2);
        due(25, of("household 1;").likeliest(0), NONE);
        due(25, of("household 1;").likeliest(1), -2);
        due(26, x.sure(2, 0), 2);
        due(26, x.sure(2, 1), 2);
        due(26, x.sure(2, 2), 13);
        due(26, x.sure(0, 0), 0);
        due(26, x.sure(0, 1), 9);
        due(26, x.sure(0, 2), 6);
        due(26, x.sure(0, 3), -2);
        due(26, x.sure(0, -1), -2);
        due(26, x.sure(3, 0), -2);
        FloorsByLot none = of("flat 0 0 size 1;household 1;household 2;household 3;may : people < 3;");
        for (int what = 0; what < 3; what++) {
            due(26, none.sure(0, what), 0);
        }
        due(27, none.tooMany(), 0);
        due(27, x.tooMany(), 0);
        due(27, of("flat 0 0 size 1;household 1;household 2;may : people < 2;").tooMany(), 2);
        due(27, of("flat 0 0 size 1;flat 1 0 size 1;household 1;household 2;household 2;may : people < 2 or floor = 0;").tooMany(), 6);
        due(27, of("household 1;").tooMany(), 1);
        due(27, new FloorsByLot().tooMany(), 0);
    }

    private static void best() {
        FloorsByLot x = of(FOUR);
        due(28, x.best(0), 13);
        due(28, x.best(10), 0);
        due(28, x.best(11), 2);
        due(28, x.best(12), 1);
        due(28, x.best(13), NONE);
        due(28, x.best(16), NONE);
        int[] wrongs = {17, 9, 1, -1, 20, Integer.MIN_VALUE};
        for (int what : wrongs) {
            due(28, x.best(what), -2);
            due(29, x.fairest(what), -2);
            due(30, x.stillest(what), -2);
        }
        FloorsByLot none = of("household 1;");
        due(28, none.best(0), -2000000);
        due(28, none.best(10), NONE);
        due(28, none.best(17), -2);
        FloorsByLot deep = of("flat 0 0 size 1;flat 1 0 size 1;flat 2 0 size 1;household 1;household 1;household 1;worth : 0 - 999 * 999 * 999;");
        due(28, deep.best(0), -3000000);
        due(28, deep.best(10), 0);
        due(28, deep.best(12), 2);
    }

    private static void fairest() {
        String text = "flat 0 0 size 1;flat 1 0 size 2;flat 2 0 size 4;household 1;household 3;worth : size * people * people - size * size;";
        FloorsByLot x = of(text);
        due(29, x.fairest(0), 0);
        due(29, x.fairest(10), 0);
        due(29, x.fairest(11), 1);
        due(29, x.fairest(12), NONE);
        due(28, x.best(0), 20);
        due(28, x.best(11), 2);
        due(29, new FloorsByLot().fairest(0), 0);
        due(29, of("flat 0 0 size 1;").fairest(10), NONE);
        due(29, of("household 1;").fairest(0), -2000000);
        due(29, of("household 1;").fairest(10), NONE);
        FloorsByLot bad = of("flat 0 0 size 1;flat 1 0 size 1;household 1;household 2;worth : (1 - people * 2 + 2) * (5 - floor * 9);");
        due(29, bad.fairest(0), 4);
        due(29, bad.fairest(10), 0);
        due(29, bad.best(0), 9);
    }

    private static void stillest() {
        FloorsByLot x = of("flat 0 0 size 1;flat 1 0 size 1;flat 1 1 size 1;household 1 noise 9 ears 1;household 1 noise 2 ears 3;household 1 noise 4 ears 4;");
        due(30, x.stillest(0), 2);
        due(30, x.stillest(10), 0);
        due(30, x.stillest(11), 1);
        due(30, x.stillest(12), 2);
        due(30, x.stillest(13), NONE);
        due(30, of("household 1;").stillest(0), NONE);
        due(30, of("household 1;").stillest(10), NONE);
        due(30, new FloorsByLot().stillest(0), 0);
        due(30, of("flat 0 0 size 1;flat 1 0 size 1;household 1 noise 5 ears 2;household 1 noise 1 ears 3;").stillest(0), 2);
        x.leaves(0);
        x.draws(4);
        due(30, x.stillest(11), 1);
        FloorsByLot lone = of("flat 0 0 size 1;flat 1 0 size 1;household 1 noise 9 ears 9;");
        due(30, lone.stillest(0), 0);
        due(30, lone.stillest(10), 0);
        FloorsByLot later = of("flat 5 0 size 1;flat 6 0 size 1;flat 7 0 size 1;household 1 noise 9 ears 9;household 1 noise 9 ears 9;");
        due(30, later.stillest(0), 0);
        due(30, later.stillest(10), 0);
        due(30, later.stillest(11), 2);
    }

    private static void bestMending() {
        due(31, of(FOUR).bestMending(), 3);
        due(31, of(SWAP).bestMending(), NONE);
        String base = "flat 0 0 size 1 faults 2;flat 1 0 size 1 faults 3;flat 2 0 size 1 faults 3;household 1;household 1;household 1;";
        FloorsByLot x = of(base + "worth : 0 - faults;");
        due(31, x.bestMending(), 1);
        due(31, x.count(5), 8);
        due(31, x.count(6), 0);
        due(31, x.best(0), -8);
        due(31, of(base + "worth : faults;").bestMending(), NONE);
        due(31, of(base + "may : faults < 3;worth : 0 - faults;").bestMending(), NONE);
        due(31, of("flat 0 0 size 1 faults 3;flat 1 0 size 1;household 1;may : faults = 0;worth : 9 - floor;").bestMending(), 0);
        due(31, of("flat 0 0 size 1 faults 3;household 1;may : faults > 0;worth : 9 - faults;").bestMending(), NONE);
        due(31, new FloorsByLot().bestMending(), NONE);
    }

    private static void thisMap() {
        FloorsByLot x = of(FOUR);
        due(32, x.thisMap(), NONE);
        x.moves(0, 3);
        x.moves(2, 1);
        due(32, x.thisMap(), 2);
        due(32, of(SWAP).thisMap(), 1);
        due(32, of("flat 0 0 size 1;household 1;lives 0 0;may : 1 = 2;").thisMap(), NONE);
        due(32, of("flat 0 0 size 1;").thisMap(), 0);
        for (int n = 0; n < 4; n++) {
            x.draws(n);
            due(32, x.thisMap(), n);
        }
    }

    private static void harmEnviesSwap() {
        FloorsByLot x = of(SWAP);
        due(33, x.harm(), 6);
        due(34, x.envies(0), 2);
        due(34, x.envies(1), 1);
        due(34, x.envies(2), -2);
        due(34, x.envies(-1), -2);
        due(35, x.wouldSwap(), 1);
        x.rings();
        due(33, x.harm(), 35);
        due(34, x.envies(0), 0);
        due(35, x.wouldSwap(), NONE);
        x.leaves(1);
        due(33, x.harm(), 0);
        due(34, x.envies(1), 0);
        FloorsByLot four = of(FOUR);
        due(33, four.harm(), 12);
        due(34, four.envies(1), 1);
        due(34, four.envies(0), 0);
        due(34, four.envies(2), 0);
        String lift = "flat 0 0 size 1;flat 1 0 size 1;flat 2 0 size 1;household 1 noise 1 ears 10;household 2 noise 2 ears 20;household 1 noise 3 ears 30;"
            + "lives 0 0;lives 1 1;lives 2 2;";
        FloorsByLot high = of(lift + "worth : floor;");
        due(33, high.harm(), 2 * 10 + 3 * 20);
        due(34, high.envies(0), 6);
        due(34, high.envies(1), 4);
        due(34, high.envies(2), 0);
        due(35, high.wouldSwap(), NONE);
        due(34, of(lift + "worth : floor;may : floor < 2;").envies(0), 2);
        due(35, of(lift + "worth : floor * (5 - noise * 2);").wouldSwap(), 2);
        due(35, of(lift + "worth : (1 - was) * (noise - 1);").wouldSwap(), 12);
        due(35, of(lift + "worth : 1 - was;").wouldSwap(), 1);
        due(35, of(lift + "worth : 1 - was;may : people = 1 and not column = 1;").wouldSwap(), 2);
    }

    private static void byRings() {
        FloorsByLot x = of(SWAP);
        due(36, x.byRings(0), 0);
        due(36, x.byRings(1), 1);
        due(36, x.byRings(2), -2);
        due(36, x.byRings(-1), -2);
        due(36, x.household(0, 5), 1);
        due(37, x.ringsMany(), 1);
        x.leaves(0);
        due(36, x.byRings(0), NONE);
        due(36, x.byRings(1), 0);
        due(37, x.ringsMany(), 0);
        FloorsByLot two = of("flat 0 0 size 1;flat 1 0 size 2;flat 2 0 size 3;flat 3 0 size 4;household 2;household 1;household 4;household 3;"
            + "lives 0 0;lives 1 1;lives 2 2;lives 3 3;worth : 0 - (size - people) * (size - people);");
        due(37, two.ringsMany(), 2);
        due(36, two.byRings(3), 2);
        FloorsByLot rest = of("flat 0 0 size 1;flat 1 0 size 2;flat 2 0 size 3;household 1;household 1;household 1;lives 0 2;lives 1 0;lives 2 1;worth : floor + (1 - was) * 0;");
        due(36, rest.byRings(0), 2);
        due(36, rest.byRings(1), 0);
        due(36, rest.byRings(2), 1);
        FloorsByLot later = of("flat 0 0 size 1;flat 1 0 size 1;flat 2 0 size 1;household 3;household 1;household 2;lives 0 2;lives 1 0;lives 2 1;"
            + "worth : (floor * floor - floor) * 50 + floor * (3 - people * 2);");
        // all want flat 2, whose household stays; the others then want each other's
        due(36, later.byRings(0), 2);
        due(36, later.byRings(1), 1);
        due(36, later.byRings(2), 0);
        due(37, later.ringsMany(), 1);
        due(37, of("flat 0 0 size 1;").ringsMany(), 0);
    }

    private static void moving() {
        FloorsByLot x = of(FOUR);
        int[][] days = {{5, 3}, {3, 3}, {3, 2}, {5, 3}};
        for (int n = 0; n < 4; n++) {
            due(38, x.moving(n, 0), days[n][0]);
            due(38, x.moving(n, 1), days[n][1]);
        }
        due(38, x.moving(4, 0), NONE);
        due(38, x.moving(-1, 0), -3);
        due(38, x.moving(-1, 2), -2);
        due(38, x.moving(0, -1), -2);
        due(38, x.moving(Integer.MAX_VALUE, 2), -2);
        due(38, of("household 1;").moving(0, 0), NONE);
        FloorsByLot swap = of(TALL + "lives 0 1;lives 1 2;");
        // to map 5 (0 on floor 9, 1 on floor 3): empty to 3, 0 to the store, empty to 9, 1 to 3, empty to 0, 0 to 9
        due(38, swap.maps(), 6);
        due(38, swap.inMap(5, 0), 2);
        due(38, swap.inMap(5, 1), 1);
        due(38, swap.moving(5, 0), 3 + 3 + 9 + 6 + 3 + 9);
        due(38, swap.moving(5, 1), 3);
        due(38, swap.moving(3, 0), 0);
        due(38, swap.moving(3, 1), 0);
        FloorsByLot chain = of(TALL + "lives 0 0;lives 1 1;");
        // to map 3 (0 on floor 3, 1 on floor 9): 1 must go first: empty to 3, 6 up, empty down 9, 3 up; or 1 to the store
        due(38, chain.inMap(3, 0), 1);
        due(38, chain.moving(3, 0), 3 + 3 + 3 + 3 + 9);
        due(38, chain.moving(3, 1), 2);
        FloorsByLot ground = of("flat 0 0 size 1;flat 0 1 size 1;household 1;household 1;lives 0 0;lives 1 1;");
        due(38, ground.moving(1, 0), 0);
        due(38, ground.moving(1, 1), 3);
        FloorsByLot away = of(TALL);
        due(38, away.moving(0, 0), 3);
        due(38, away.moving(3, 0), 3 + 3 + 9);
        due(38, away.moving(3, 1), 2);
    }

    private static void nearest() {
        due(39, of(FOUR).nearest(), 1);
        due(39, of(SWAP).nearest(), 1);
        due(39, of("household 1;").nearest(), NONE);
        due(39, of(TALL).nearest(), 0);
        due(39, of(TALL + "lives 0 2;").nearest(), 4);
        String five = "flat 0 0 size 1;flat 1 0 size 1;flat 2 0 size 1;flat 3 0 size 1;flat 4 0 size 1;";
        due(39, of(five + "household 1;".repeat(4)).nearest(), -4);
        due(39, of(five + "household 1;".repeat(3)).nearest(), 0);
        StringBuilder ten = new StringBuilder("household 1;household 1;may : 1 = 1 or 2 = 1;");
        for (int f = 0; f < 8; f++) {
            ten.append("flat ").append(f).append(" 1 size 1;");
        }
        due(39, of(ten + "lives 0 7;lives 1 6;").nearest(), 55);
        FloorsByLot x = of(TALL + "lives 0 2;lives 1 1;");
        due(39, x.nearest(), 5);
        x.leaves(0);
        due(39, x.nearest(), 0);
    }

    private static void seen() {
        FloorsByLot x = of(FOUR);
        due(40, x.seen(0), -6);
        due(40, x.seen(4), -2);
        due(40, x.seen(-1), -2);
        tray(x, 0, -1, -1, -1);
        due(40, x.seen(0), -4);
        tray(x, 0, -1, -1, -1, -1, -1);
        due(40, x.seen(0), -4);
        tray(x, 0, -1, -1, -1, -1);
        due(40, x.seen(0), 4);
        tray(x, 0, 0, -1, -1, -1);
        due(40, x.seen(0), 2);
        tray(x, 0, 0, 2, 1, 99);
        due(40, x.seen(0), 1);
        tray(x, 0, 99, -1, -1, -1);
        due(40, x.seen(0), 1);
        tray(x, 0, -1, 99, -1, -1);
        due(40, x.seen(0), 0);
        tray(x, 0, 0, -1, -1, 0);
        due(40, x.seen(0), 0);
        long[] wrongs = {3, -2, 98, 100, 6, Long.MAX_VALUE, Long.MIN_VALUE, 1L << 32, (1L << 32) - 1};
        for (long v : wrongs) {
            tray(x, 0, -1, -1, -1, v);
            due(40, x.seen(0), -3);
            due(41, x.had(0, 0), -3);
            due(42, x.wall(0), -3);
        }
        tray(x, 0, 77);
        due(40, x.seen(0), -4);
        FloorsByLot none = new FloorsByLot();
        none.numbers(1, 0, 0);
        due(40, none.seen(1), 1);
        due(42, none.wall(1), NONE);
    }

    private static void had() {
        FloorsByLot x = of(FOUR);
        due(41, x.had(0, 0), -6);
        due(41, x.had(4, 0), -2);
        due(41, x.had(-1, 0), -2);
        due(41, x.had(0, 3), -2);
        due(41, x.had(0, -1), -2);
        tray(x, 0, -1);
        due(41, x.had(0, 0), -4);
        due(41, x.had(0, 3), -2);
        tray(x, 0, -1, -1, -1, -1);
        due(41, x.had(0, 0), NONE);
        due(41, x.had(0, 2), 1);
        tray(x, 0, 99, -1, -1, -1);
        due(41, x.had(0, 0), 3);
        due(41, x.had(0, 1), 2);
        tray(x, 0, 0, 0, -1, -1);
        due(41, x.had(0, 0), NONE);
    }

    private static void wall() {
        FloorsByLot x = of(FOUR);
        due(42, x.wall(0), -6);
        due(42, x.wall(4), -2);
        due(42, x.wall(-1), -2);
        tray(x, 0, -1);
        due(42, x.wall(0), -4);
        // flat 0: 0 twice, 1 once, nobody once; flat 2: 1 twice, nobody twice; flat 3: 0 twice, 1 once, nobody once
        tray(x, 0, -1, -1, -1, -1);
        due(42, x.wall(0), 0);
        tray(x, 0, 0, -1, -1, -1);
        due(42, x.wall(0), 2);
        tray(x, 0, 0, -1, 1, -1);
        due(42, x.wall(0), 1);
        tray(x, 0, 0, 2, 1, 99);
        due(42, x.wall(0), NONE);
        tray(x, 0, 2, -1, -1, -1);
        due(42, x.wall(0), NONE);
        FloorsByLot nobody = of("flat 0 0 size 1;flat 1 0 size 1;");
        tray(nobody, 0, 99, -1);
        due(42, nobody.wall(0), 1);
        FloorsByLot lone = of("flat 0 0 size 1;flat 1 0 size 1;flat 2 0 size 1;household 1;household 1;may : floor < 2 or people = 1;");
        tray(lone, 3, -1, -1, -1);
        due(42, lone.wall(3), 0);
        tray(lone, 3, -1, 0, -1);
        due(42, lone.wall(3), 0);
    }

    private static void trays() {
        FloorsByLot x = new FloorsByLot();
        due(44, x.write(0, 0, 5), -6);
        due(44, x.write(4, 0, 5), -2);
        due(44, x.write(-1, 0, 5), -2);
        due(43, x.numbers(4, 0, 1), -2);
        due(43, x.numbers(-1, 0, 1), -2);
        due(43, x.numbers(0, 4, 1), -2);
        due(43, x.numbers(0, -1, 41), -2);
        due(43, x.numbers(0, 0, 41), -3);
        due(43, x.numbers(0, 0, -1), -3);
        due(43, x.perform(0), -6);
        due(43, x.numbers(0, 0, 0), 0);
        due(44, x.write(0, 0, 5), -7);
        due(43, x.numbers(0, 0, 40), 0);
        due(44, x.write(0, 39, 5), 5);
        due(44, x.write(0, 40, 5), -7);
        due(44, x.write(0, -1, 5), -7);
        long v = 0x123456789abcdef0L;
        due(44, x.write(0, 0, v), (byte) v);
        due(44, x.write(0, 0, 200), -56);
        due(44, x.write(0, 0, 127), 127);
        for (int t = 0; t < 4; t++) {
            due(43, x.numbers(t, t, 2), 0);
        }
        due(44, x.write(1, 1, v), (short) v);
        due(44, x.write(1, 1, 40000), -25536);
        due(44, x.write(2, 1, v), (int) v);
        due(44, x.write(2, 1, 1L << 31), Integer.MIN_VALUE);
        due(44, x.write(3, 1, v), v);
        due(44, x.write(3, 1, Long.MIN_VALUE), Long.MIN_VALUE);
        FloorsByLot flats = of("flat 0 0 size 1;flat 1 0 size 1;household 1;");
        tray(flats, 0, 99, -1);
        due(43, flats.seen(0), 1);
        due(43, flats.numbers(0, 2, 41), -3);
        due(43, flats.seen(0), 1);
        due(43, flats.numbers(0, 5, 2), -2);
        due(43, flats.had(0, 0), 1);
        due(43, flats.numbers(0, 2, 2), 0);
        due(43, flats.seen(0), 0);
        due(43, flats.tower(0), 0);
        due(43, flats.seen(0), -4);
    }

    private static void lists() {
        FloorsByLot x = of(FOUR);
        due(45, x.lists(0), -6);
        due(45, x.lists(4), -2);
        due(45, x.lists(-1), -2);
        tray(x, 0, 7, 7, 7, 7);
        due(45, x.lists(0), 4);
        x.moves(2, 3);
        due(45, x.household(2, 5), NONE);
        due(45, x.had(0, 0), NONE);
        x.draws(3);
        due(45, x.lists(0), 4);
        due(45, x.seen(0), 1);
        due(45, x.had(0, 0), 3);
        due(45, x.had(0, 1), 2);
        due(45, x.wall(0), NONE);
        x.numbers(1, 0, 2);
        due(45, x.lists(1), 2);
        x.numbers(1, 0, 0);
        due(45, x.lists(1), 0);
        FloorsByLot wide = of("flat 0 0 size 1;household 1;");
        tray(wide, 2, 5, 2000, 2000);
        due(45, wide.lists(2), 1);
        wide.moves(0, 0);
        due(45, wide.lists(2), 1);
        due(45, wide.judge(2, 1), 2);
        wide.leaves(0);
        due(45, wide.perform(2), 3);
        due(45, wide.flat(0, 4), 2);
        due(45, wide.flat(0, 5), 0);
    }

    private static void images() {
        FloorsByLot x = of(FOUR);
        due(46, x.image(2), -2);
        due(46, x.image(-1), -2);
        due(47, x.restore(2), -2);
        due(47, x.restore(-1), -2);
        due(47, x.restore(0), -5);
        x.draws(1);
        due(46, x.image(0), 0);
        due(46, x.count(6), 1);
        due(47, x.restore(1), -5);
        x.draws(2);
        x.spoils(0);
        tray(x, 0, 4000);
        read(x, SWAP);
        x.draws(0);
        x.feed(0, 0, 0, 0, 0);
        due(46, x.image(1), 0);
        due(47, x.restore(0), 0);
        due(47, x.count(0), 4);
        due(47, x.count(1), 3);
        due(47, x.count(3), 6);
        due(47, x.count(5), 1);
        due(47, x.count(6), 0);
        due(47, x.count(7), 20);
        due(47, x.count(8), 12);
        due(47, x.household(1, 5), 3);
        due(47, x.times(1, 3), 1);
        due(47, x.times(1, 0), 0);
        due(47, x.may(0, 2), 0);
        due(47, x.worth(1, 2), 12);
        due(47, x.judge(0, 2), 7);
        due(47, x.undo(1), -3);
        x.spoils(1);
        x.draws(0);
        due(47, x.restore(1), 0);
        due(47, x.count(0), 2);
        due(47, x.count(8), 7);
        due(47, x.worth(0, 1), -1);
        due(47, x.times(0, 0), 1);
        due(47, x.restore(0), 0);
        due(47, x.flat(1, 4), 0);
        due(47, x.count(3), 6);
        due(46, x.image(1), 0);
        x.draws(0);
        due(47, x.restore(1), 0);
        due(47, x.count(3), 6);
    }

    private static void count() {
        FloorsByLot x = of(FOUR);
        x.spoils(0);
        x.spoils(0);
        x.leaves(0);
        x.feed(0, 0, 0, 0, 0);
        int[] counts = {4, 3, 2, 5, 3, 3, 3, 20, 12};
        for (int what = 0; what < counts.length; what++) {
            due(48, x.count(what), counts[what]);
        }
        due(48, x.count(9), NONE);
        due(48, x.count(-1), NONE);
        due(48, x.count(Integer.MIN_VALUE), NONE);
    }
}
