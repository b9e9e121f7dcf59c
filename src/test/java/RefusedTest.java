import java.util.ArrayList;
import java.util.List;
import java.util.Set;
import java.util.function.Consumer;
import java.util.function.Supplier;
import java.util.function.ToLongFunction;

/**
 * Refused calls answer by their code, the one that the call tells first, and change nothing: each is made on one of two
 * objects that had the same calls ahead, and then all that can be seen of both is held against each other.
 */
public final class RefusedTest extends Told {
    private static final int LEAST = Integer.MIN_VALUE;
    private static final int MOST = Integer.MAX_VALUE;
    private static final int NO_WORTH = -2_000_000;

    /** What is looked at, each on an object of its own, so that none has too many calls and one look can't spoil another. */
    private static final List<Consumer<Look>> LOOKS = List.of(
        RefusedTest::lookAtFacts, RefusedTest::lookAtMaps, RefusedTest::lookBack, RefusedTest::lookIntoTrays,
        RefusedTest::lookAtImages, RefusedTest::lookAtTape, RefusedTest::lookAtHeadOfTape);
    /** Looks that see what a text with a fault leaves behind itself. */
    private static final Set<Integer> TELLING_OF_FAULTS = Set.of(0, 5, 6);

    private static final class Look {
        final FloorsByLot x;
        final List<Long> answers = new ArrayList<>();

        Look(FloorsByLot x) {
            this.x = x;
        }

        void note(long answer) {
            answers.add(answer);
        }
    }

    private static final class Case {
        final String name;
        final Supplier<FloorsByLot> made;
        final List<List<Long>> due = new ArrayList<>();

        Case(String name, Supplier<FloorsByLot> made) {
            this.name = name;
            this.made = made;
            for (Consumer<Look> look : LOOKS) {
                due.add(seen(look, made.get()));
            }
        }

        void refuses(ToLongFunction<FloorsByLot> call, long code) {
            due(call.applyAsLong(made.get()), code);
            for (int k = 0; k < LOOKS.size(); k++) {
                FloorsByLot x = made.get();
                call.applyAsLong(x);
                call.applyAsLong(x);
                hold(k, x);
            }
        }

        private void hold(int k, FloorsByLot x) {
            List<Long> got = seen(LOOKS.get(k), x);
            for (int i = 0; i < got.size() || i < due.get(k).size(); i++) {
                if (i >= got.size() || i >= due.get(k).size() || !got.get(i).equals(due.get(k).get(i))) {
                    complain(name + ": a refused call changed what look " + k + " sees at " + i);
                    return;
                }
            }
        }

        private static List<Long> seen(Consumer<Look> look, FloorsByLot x) {
            Look at = new Look(x);
            look.accept(at);
            return at.answers;
        }
    }

    public static void main(String[] args) {
        says("Refused calls answer by a code and change nothing: -2 there is none such; -3 a number can't be; -4 too many; -5 it can't be now;"
            + " -6 a TRAY is MISSING; -7 it has no such number; -11 to -13 why not (1 to 3); -30 less the FAULT: a text.");
        everyCase(new Case("a new object", FloorsByLot::new), 0, 0);
        everyCase(new Case("a busy tower", RefusedTest::busy), 4, 3);
        everyCase(new Case("a full tower", RefusedTest::full), 8, 7);
        everyCase(new Case("a tower without maps", RefusedTest::crowd), 1, 2);
        everyCase(new Case("flats alone", () -> withTrays(of(flats(2) + "may : 1 = 2;"))), 2, 0);
        everyCase(new Case("households alone", () -> withTrays(of(households(2)))), 0, 2);
        busyRefuses();
        fullRefuses();
        crowdRefuses();
        emptyRefuses();
        faultsChangeNothing();
        whichIsToldFirst();
        end();
    }

    // ---- towers

    /** One household away, three calls to undo, one image, trays of deeds, of walls, of nothing, and one that is missing. */
    private static FloorsByLot busy() {
        FloorsByLot x = of("quarter 3;");
        x.draws(0);
        x.image(1);
        read(x, FOUR);
        x.draws(3);
        x.spoils(1);
        x.leaves(1);
        tray(x, 0, 4001, 100, 2000, 1002, 3000, 4003, 2101);
        trayOf(x, 1, 0, -1, 2, 99, -1);
        x.numbers(2, 1, 0);
        Told.feed(x, "quarter 77;flat 3 3 size 3;");
        return x;
    }

    private static FloorsByLot withTrays(FloorsByLot x) {
        tray(x, 0, 3000, 2000, 2001, 4000);
        trayOf(x, 1, 2, -1, -1);
        x.spoils(0);
        return x;
    }

    /** Eight flats, seven households, ten calls to undo, both images, a full tape, forty numbers in each tray. */
    private static FloorsByLot full() {
        FloorsByLot x = of(flats(7) + "flat 9 3 size 1 faults 9;" + "household 1 noise 9 ears 8;".repeat(7) + "worth : floor * people - was * 3;");
        x.image(0);
        for (int n = 0; n < 12; n++) {
            x.draws(n * 3333);
        }
        x.image(1);
        x.spoils(2);
        long[] forty = new long[40];
        for (int i = 0; i < 40; i++) {
            forty[i] = 4000 + i * 99;
        }
        for (int t = 0; t < 4; t++) {
            trayOf(x, t, Math.max(1, t), forty);
        }
        Told.feed(x, "quarter 5;" + " ".repeat(880) + "quarter 6;");
        return x;
    }

    private static FloorsByLot crowd() {
        FloorsByLot x = withTrays(of("flat 4 0 size 1;household 1;household 2;lives 1 0;worth : people;quarter 999;"));
        x.leaves(1);
        x.moves(0, 0);
        x.image(0);
        Told.feed(x, "quarter 77;");
        return x;
    }

    // ---- looks

    private static void lookAtFacts(Look at) {
        FloorsByLot x = at.x;
        for (int what = 0; what < 10; what++) {
            at.note(x.count(what));
        }
        at.note(x.fault(0));
        at.note(x.fault(1));
        for (int f = 0; f < x.count(0); f++) {
            for (int what = 0; what < 6; what++) {
                at.note(x.flat(f, what));
            }
        }
        for (int h = 0; h < x.count(1); h++) {
            for (int what = 0; what < 6; what++) {
                at.note(x.household(h, what));
            }
            for (int f = 0; f < x.count(0); f++) {
                at.note(x.times(h, f));
                at.note(x.may(h, f));
                at.note(x.worth(h, f));
            }
        }
    }

    private static void lookAtMaps(Look at) {
        FloorsByLot x = at.x;
        at.note(x.maps());
        at.note(x.allElse());
        at.note(x.tooMany());
        at.note(x.bestMending());
        at.note(x.thisMap());
        at.note(x.harm());
        at.note(x.wouldSwap());
        at.note(x.ringsMany());
        at.note(x.nearest());
        at.note(x.moving(1, 0));
        at.note(x.moving(0, 1));
        at.note(x.best(0));
        at.note(x.fairest(0));
        at.note(x.stillest(0));
        for (int h = 0; h < x.count(1); h++) {
            at.note(x.inMap(x.maps() / 2, h));
            at.note(x.with(h, x.count(0) / 2));
            at.note(x.near(h, 0));
            at.note(x.likeliest(h));
            at.note(x.sure(h, 1));
            at.note(x.best(10 + h));
            at.note(x.fairest(10 + h));
            at.note(x.stillest(10 + h));
            at.note(x.envies(h));
            at.note(x.byRings(h));
        }
        at.note(x.rings());
        at.note(x.draws(7));
        lookShortly(at);
    }

    private static void lookShortly(Look at) {
        for (int h = 0; h < at.x.count(1); h++) {
            at.note(at.x.household(h, 5));
            at.note(at.x.times(h, 0));
        }
        for (int f = 0; f < at.x.count(0); f++) {
            at.note(at.x.flat(f, 4));
        }
        at.note(at.x.count(3));
        at.note(at.x.count(6));
        at.note(at.x.count(8));
    }

    private static void lookBack(Look at) {
        for (int n = 0; n < 11; n++) {
            at.note(at.x.undo(1));
            lookShortly(at);
        }
    }

    private static void lookIntoTrays(Look at) {
        for (int t = 0; t < 4; t++) {
            for (int what = 0; what < 4; what++) {
                at.note(at.x.judge(t, what));
            }
            at.note(at.x.seen(t));
            at.note(at.x.wall(t));
            at.note(at.x.had(t, 0));
        }
        for (int t = 0; t < 4; t++) {
            at.note(at.x.perform(t));
            lookShortly(at);
            at.note(at.x.write(t, 0, 0x123456789abcdef0L));
            at.note(at.x.write(t, 39, 5));
            at.note(at.x.lists(t));
        }
    }

    private static void lookAtTape(Look at) {
        int length = at.x.count(7);
        at.note(length);
        at.note(at.x.feed(0x3b202020, 0x20202020, 0x20202020, 0x20202020, 0x20202020));
        at.note(at.x.tower(length));
        at.note(at.x.fault(0));
        at.note(at.x.fault(1));
        lookShortly(at);
    }

    private static void lookAtHeadOfTape(Look at) {
        at.note(at.x.tower(Math.min(27, at.x.count(7))));
        at.note(at.x.flat(0, 2));
        lookShortly(at);
    }

    private static void lookAtImages(Look at) {
        for (int i = 1; i >= 0; i--) {
            at.note(at.x.restore(i));
            lookShortly(at);
            at.note(at.x.maps());
            at.note(at.x.count(0));
        }
        at.note(at.x.undo(1));
    }

    // ---- what every object refuses, of so many flats and households

    private static void everyCase(Case c, int flats, int households) {
        int tape = c.made.get().count(7);
        for (int n : new int[] {-1, tape + 1, 901, LEAST, MOST}) {
            c.refuses(x -> x.tower(n), -3);
        }
        for (int h : new int[] {-1, households, LEAST, MOST}) {
            c.refuses(x -> x.household(h, 0), -8);
            c.refuses(x -> x.leaves(h), -11);
            c.refuses(x -> x.moves(h, 0), -11);
            c.refuses(x -> x.inMap(0, h), -2);
            c.refuses(x -> x.likeliest(h), -2);
            c.refuses(x -> x.sure(h, 0), -2);
            c.refuses(x -> x.envies(h), -2);
            c.refuses(x -> x.byRings(h), -2);
            c.refuses(x -> x.near(0, h), -2);
            c.refuses(x -> x.near(h, h), -2);
            c.refuses(x -> x.times(h, 0), -2);
            c.refuses(x -> x.may(h, 0), -2);
            c.refuses(x -> x.with(h, 0), -2);
            c.refuses(x -> x.worth(h, 0), NO_WORTH);
            c.refuses(x -> x.had(0, h), -2);
        }
        for (int f : new int[] {-1, flats, LEAST, MOST}) {
            c.refuses(x -> x.flat(f, 0), -8);
            c.refuses(x -> x.spoils(f), -11);
            c.refuses(x -> x.mends(f), -11);
            c.refuses(x -> x.moves(0, f), -11);
            c.refuses(x -> x.times(0, f), -2);
            c.refuses(x -> x.may(0, f), -2);
            c.refuses(x -> x.with(0, f), -2);
            c.refuses(x -> x.worth(0, f), NO_WORTH);
        }
        for (int n : new int[] {-1, LEAST}) {
            c.refuses(x -> x.draws(n), -3);
            c.refuses(x -> x.moving(n, 0), -3);
            c.refuses(x -> x.year(5, n), -3);
            c.refuses(x -> x.undo(n), -3);
        }
        everyTrayAndWhat(c);
    }

    private static void everyTrayAndWhat(Case c) {
        for (int t : new int[] {-1, 4, LEAST, MOST}) {
            c.refuses(x -> x.judge(t, 0), -2);
            c.refuses(x -> x.perform(t), -2);
            c.refuses(x -> x.seen(t), -2);
            c.refuses(x -> x.had(t, 0), -2);
            c.refuses(x -> x.wall(t), -2);
            c.refuses(x -> x.numbers(t, 0, 1), -2);
            c.refuses(x -> x.write(t, 0, 1), -2);
            c.refuses(x -> x.lists(t), -2);
        }
        for (int what : new int[] {-1, 9, 17, LEAST, MOST}) {
            c.refuses(x -> x.judge(0, what), -2);
            c.refuses(x -> x.best(what), -2);
            c.refuses(x -> x.fairest(what), -2);
            c.refuses(x -> x.stillest(what), -2);
            c.refuses(x -> x.moving(0, what), -2);
            c.refuses(x -> x.sure(0, what), -2);
            c.refuses(x -> x.flat(0, what), -8);
            c.refuses(x -> x.household(0, what), -8);
            c.refuses(x -> x.numbers(0, what, 1), -2);
            c.refuses(x -> x.image(what), -2);
            c.refuses(x -> x.restore(what), -2);
            c.refuses(x -> x.count(what), NONE);
            c.refuses(x -> x.fault(what), NONE);
        }
        for (int n : new int[] {-1, 41, LEAST, MOST}) {
            for (int t = 0; t < 4; t++) {
                int tray = t;
                c.refuses(x -> x.numbers(tray, 3, n), -3);
            }
        }
        for (int n : new int[] {0, 31, MOST}) {
            c.refuses(x -> x.year(5, n), -3);
            c.refuses(x -> x.undo(n), -3);
        }
    }

    // ---- what one of them refuses

    private static void busyRefuses() {
        Case c = new Case("a busy tower", RefusedTest::busy);
        // household 0 lives in flat 3, 2 in flat 1, household 1 is away
        c.refuses(x -> x.moves(1, 3), -12);
        c.refuses(x -> x.moves(0, 3), -12);
        c.refuses(x -> x.moves(0, 2), -13);
        c.refuses(x -> x.moves(2, 0), -13);
        c.refuses(x -> x.leaves(1), -12);
        c.refuses(x -> x.mends(0), -12);
        c.refuses(x -> x.mends(2), -12);
        c.refuses(x -> x.undo(4), -3);
        c.refuses(x -> x.undo(11), -3);
        c.refuses(x -> x.restore(0), -5);
        c.refuses(x -> x.moving(4, 0), NONE);
        c.refuses(x -> x.inMap(4, 0), NONE);
        c.refuses(x -> x.judge(3, 0), -6);
        c.refuses(x -> x.perform(3), -6);
        c.refuses(x -> x.write(3, 0, 4), -6);
        c.refuses(x -> x.lists(3), -6);
        c.refuses(x -> x.seen(3), -6);
        c.refuses(x -> x.had(3, 0), -6);
        c.refuses(x -> x.wall(3), -6);
        c.refuses(x -> x.seen(0), -4);
        c.refuses(x -> x.had(0, 1), -4);
        c.refuses(x -> x.wall(2), -4);
        for (int i : new int[] {-1, 4, 40, LEAST, MOST}) {
            c.refuses(x -> x.write(1, i, 9), -7);
        }
        c.refuses(x -> x.write(2, 0, 9), -7);
    }

    private static void fullRefuses() {
        Case c = new Case("a full tower", RefusedTest::full);
        c.refuses(x -> x.feed(0x71756172, 0x74657220, 0x313b2020, 0x20202020, 0x20202020), -5);
        c.refuses(x -> x.spoils(7), -12);
        c.refuses(x -> x.mends(0), -12);
        c.refuses(FloorsByLot::nearest, -4);
        c.refuses(x -> x.undo(11), -3);
        c.refuses(x -> x.write(3, 40, 9), -7);
        c.refuses(x -> x.seen(3), -4);
        c.refuses(x -> x.moves(0, full().household(1, 5)), -12);
    }

    private static void crowdRefuses() {
        Case c = new Case("a tower without maps", RefusedTest::crowd);
        c.refuses(x -> x.draws(0), -5);
        c.refuses(x -> x.draws(MOST), -5);
        c.refuses(x -> x.moves(1, 0), -12);
        c.refuses(x -> x.leaves(1), -12);
        c.refuses(x -> x.restore(1), -5);
        c.refuses(x -> x.seen(1), -4);
        c.refuses(x -> x.likeliest(0), NONE);
        c.refuses(x -> x.best(10), NONE);
        c.refuses(x -> x.best(0), NO_WORTH);
        c.refuses(x -> x.moving(0, 0), NONE);
        c.refuses(FloorsByLot::nearest, NONE);
        c.refuses(FloorsByLot::bestMending, NONE);
    }

    private static void emptyRefuses() {
        Case c = new Case("a new object", FloorsByLot::new);
        c.refuses(x -> x.year(1, 1), -5);
        c.refuses(x -> x.restore(0), -5);
        c.refuses(x -> x.restore(1), -5);
        c.refuses(x -> x.undo(1), -3);
        c.refuses(x -> x.perform(0), -6);
        c.refuses(FloorsByLot::rings, 0);
        new Case("flats alone", () -> of(flats(2))).refuses(x -> x.year(1, 30), -5);
        new Case("households alone", () -> of(households(2))).refuses(x -> x.year(1, 30), -5);
        Case walls = new Case("a wrong wall", () -> {
            FloorsByLot x = of(TALL);
            tray(x, 0, -1, 0, 98);
            return x;
        });
        walls.refuses(x -> x.seen(0), -3);
        walls.refuses(x -> x.had(0, 0), -3);
        walls.refuses(x -> x.wall(0), -3);
    }

    /** A text with a fault takes the tape, and is told by fault(); everything else stays. */
    private static void faultsChangeNothing() {
        says("(all stays with a FAULT)");
        String[] texts = {"#", "flat 0 0 size 1;quarter", "quarter 4;flat 0 0 size 100;", households(8), "may : 1 = 2;lives 6 6;"};
        int[] codes = {-31, -32, -33, -34, -33};
        for (int n = 0; n < texts.length; n++) {
            String text = texts[n];
            Supplier<FloorsByLot> made = () -> {
                FloorsByLot x = busy();
                x.tower(0);
                x.restore(1);
                read(x, FOUR);
                x.draws(2);
                x.image(0);
                x.mends(3);
                return x;
            };
            Case c = new Case("a text with a fault", made);
            due(read(made.get(), text), codes[n]);
            for (int k = 0; k < LOOKS.size(); k++) {
                FloorsByLot x = made.get();
                read(x, text);
                due(x.fault(0), -30 - codes[n]);
                due(x.count(7), 0);
                if (!TELLING_OF_FAULTS.contains(k)) {
                    c.hold(k, x);
                }
            }
        }
    }

    private static void whichIsToldFirst() {
        says("(Of several that which the call tells first; all these ahead of NONE.)");
        FloorsByLot x = of(FOUR);
        FloorsByLot crowd = of("flat 0 0 size 1;household 1;household 1;lives 0 0;may : 1 = 2;");
        FloorsByLot empty = new FloorsByLot();
        due(empty.year(1, 0), -3);
        due(crowd.draws(-1), -3);
        due(x.inMap(-1, 3), -2);
        due(x.inMap(4, 3), -2);
        due(crowd.inMap(0, 2), -2);
        due(crowd.inMap(-1, 1), -3);
        due(x.moving(-1, 2), -2);
        due(x.moving(4, 2), -2);
        due(crowd.moving(0, 2), -2);
        due(crowd.moving(-1, 0), -3);
        due(crowd.moves(2, 0), -11);
        due(crowd.moves(1, 0), -12);
        due(crowd.moves(0, 0), -12);
        due(crowd.likeliest(2), -2);
        due(crowd.sure(2, 0), -2);
        due(crowd.sure(0, 3), -2);
        due(crowd.best(9), -2);
        due(crowd.fairest(17), -2);
        due(crowd.stillest(1), -2);
        due(empty.best(9), -2);
        due(x.judge(3, 4), -2);
        due(x.judge(4, 4), -2);
        due(x.judge(3, 0), -6);
        due(x.had(3, 3), -2);
        due(x.had(4, 0), -2);
        due(x.had(3, 0), -6);
        due(x.numbers(4, 0, 41), -2);
        due(x.numbers(0, 4, 41), -2);
        due(x.write(4, 41, 0), -2);
        due(x.write(0, 41, 0), -6);
        due(x.restore(2), -2);
        tray(x, 0, 77);
        due(x.seen(0), -4);
        due(x.had(0, 0), -4);
        due(x.had(0, 3), -2);
        due(x.wall(0), -4);
        tray(x, 0, 0, 0, 77, 0);
        due(x.seen(0), -3);
        due(x.had(0, 0), -3);
        due(x.had(0, 3), -2);
        due(x.wall(0), -3);
        tray(crowd, 0, 77);
        due(crowd.seen(0), -3);
        due(crowd.had(0, 0), -3);
        due(crowd.wall(0), -3);
        due(x.near(3, 3), -2);
        due(x.flat(4, 6), -8);
    }
}
