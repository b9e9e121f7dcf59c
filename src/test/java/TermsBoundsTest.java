import java.util.Arrays;
import java.util.List;
import java.util.function.Consumer;

/** Every boundary that the document's Terms name beyond the text: laws, maps, draws, rings, deeds, undoing, years, trays, images. */
public final class TermsBoundsTest extends Told {
    private static final String ONE = "flat 0 0 size 1;household 1;";
    private static final String[] NAMES = {
        "floor", "column", "size", "light", "faults", "people", "noise", "ears", "stairs", "age", "was", "times", "quarter"
    };
    private static final int MOST = 1_000_000;
    private static final int[] FAR = {-1, Integer.MIN_VALUE, Integer.MAX_VALUE};

    public static void main(String[] args) {
        usedFor512Calls();
        namesInLaws();
        was();
        times();
        quarterModulo();
        keptWithin();
        withoutLaws();
        mapsByNumbers();
        withoutHouseholds();
        drawModulo();
        lawsAsAllIsAhead();
        rings();
        moveAndLeave();
        faultMore();
        deedsInATray();
        whyNot();
        undone();
        undoneAsAWhole();
        undoneSingly();
        ringsAside();
        ofLikeOnes();
        harm();
        envies();
        movingDay();
        seen();
        years();
        trays();
        images();
        end();
    }

    private static void usedFor512Calls() {
        says("An object is used for at most 512 calls after it has been made");
        FloorsByLot x = new FloorsByLot();
        read(x, TALL);
        int draws = 512 - 2 - (TALL.length() + 19) / 20 - 1;
        for (int n = 0; n < draws; n++) {
            due(x.draws(n), n % 6);
        }
        due(x.count(3), draws);
        due(x.times(1, 2), (draws + 4) / 6 + (draws + 2) / 6);
    }

    private static void namesInLaws() {
        says("In both laws, of a HOUSEHOLD and a FLAT: floor, column, size, light, faults: the FLAT's; people, noise, ears, stairs, age: the HOUSEHOLD's");
        String most = "flat 9 3 size 99 light 9 faults 9;household 99 noise 98 ears 97 stairs 96 age 95;lives 0 0;quarter 999;";
        int[] mosts = {9, 3, 99, 9, 9, 99, 98, 97, 96, 95, 1, 0, 999};
        int[] leasts = {0, 0, 1, 0, 0, 1, 0, 0, 0, 0, 0, 0, 0};
        for (int k = 0; k < NAMES.length; k++) {
            due(of(most + "worth : " + NAMES[k] + ";").worth(0, 0), mosts[k]);
            due(of(ONE + "worth : " + NAMES[k] + ";").worth(0, 0), leasts[k]);
            due(of(most + "may : " + NAMES[k] + " = " + mosts[k] + ";").may(0, 0), 1);
            due(of(ONE + "may : not " + NAMES[k] + " = " + leasts[k] + ";").may(0, 0), 0);
        }
        FloorsByLot x = of("flat 1 2 size 3 light 4 faults 5;flat 6 0 size 7 light 8 faults 9;household 10;household 20;worth : floor * 100 + faults * 10 + people;");
        due(x.worth(0, 0), 160);
        due(x.worth(1, 0), 170);
        due(x.worth(0, 1), 700);
        due(x.worth(1, 1), 710);
    }

    private static void was() {
        says("was: 1 if it lives there now, else 0");
        FloorsByLot x = of(TALL + "lives 0 1;worth : was;");
        int[][] lives = {{0, 1, 0}, {0, 0, 0}};
        for (int h = 0; h < 2; h++) {
            for (int f = 0; f < 3; f++) {
                due(x.worth(h, f), lives[h][f]);
            }
        }
        x.leaves(0);
        due(x.worth(0, 1), 0);
        x.moves(1, 2);
        due(x.worth(1, 2), 1);
        x.undo(2);
        due(x.worth(0, 1), 1);
        due(x.worth(1, 2), 0);
    }

    private static void times() {
        says("times: how often it was DRAWN there");
        FloorsByLot x = of(TALL + "lives 0 1;worth : times;");
        due(x.worth(0, 1), 0);
        x.moves(1, 2);
        x.leaves(1);
        x.moves(1, 2);
        x.rings();
        due(x.worth(1, 2), 0);
        x.draws(3);
        due(x.worth(0, 1), 1);
        due(x.worth(1, 2), 1);
        due(x.worth(0, 0), 0);
        x.draws(3);
        x.draws(1);
        due(x.worth(0, 1), 2);
        due(x.worth(0, 0), 1);
        due(x.worth(1, 2), 3);
    }

    private static void quarterModulo() {
        says("quarter: QUARTER modulo 1,000");
        FloorsByLot x = of(ONE + "quarter 998;worth : quarter;may : quarter > 998 or quarter < 2 or 3 > 2;");
        int[] quarters = {998, 999, 0, 1, 2};
        for (int n = 0; n < quarters.length; n++) {
            due(x.count(3), 998 + n);
            due(x.worth(0, 0), quarters[n]);
            x.draws(n);
        }
        x.undo(4);
        due(x.count(3), 999);
        due(x.worth(0, 0), 999);
        long[] forty = new long[40];
        Arrays.fill(forty, 4000);
        tray(x, 0, forty);
        for (int n = 0; n < 25; n++) {
            due(x.perform(0), 40);
        }
        due(x.count(3), 1999);
        due(x.worth(0, 0), 999);
        due(x.judge(0, 2), 2039);
        x.draws(0);
        due(x.count(3), 2000);
        due(x.worth(0, 0), 0);
        due(x.times(0, 0), 1002);
        FloorsByLot law = of(ONE + "quarter 999;may : quarter > 0;");
        due(law.draws(0), 0);
        due(law.count(3), 1000);
        due(law.may(0, 0), 0);
        due(law.draws(0), -5);
    }

    private static void kept(String sum, int worth) {
        FloorsByLot x = of(ONE + "worth : " + sum + ";may : " + sum + " = " + (worth < 0 ? "0 - " : "") + keptText(Math.abs(worth)) + ";");
        due(x.worth(0, 0), worth);
        due(x.may(0, 0), 1);
    }

    /** A number up to a million told by numbers of three digits. */
    private static String keptText(int number) {
        return number < 1000 ? String.valueOf(number) : "(" + number / 1000 % 1000 + " * 500 * 2 + " + number % 1000 + (number == MOST ? " + 500 * 500 * 4" : "") + ")";
    }

    private static void keptWithin() {
        says("each + - * kept from -1,000,000 to 1,000,000.");
        String nearly = "999 * 999 + 999 + 999";
        kept(nearly, 999_999);
        kept(nearly + " + 1", MOST);
        kept(nearly + " + 2", MOST);
        kept(nearly + " + 1 - 1", 999_999);
        kept(nearly + " + 2 - 1", 999_999);
        kept(nearly + " + 999 - 999", 999_001);
        String below = "0 - 999 * 999 - 999 - 999";
        kept(below, -999_999);
        kept(below + " - 1", -MOST);
        kept(below + " - 2", -MOST);
        kept(below + " - 2 + 1", -999_999);
        kept(below + " - 999 + 999", -999_001);
        kept("500 * 500 * 4", MOST);
        kept("(0 - 500) * 500 * 4", -MOST);
        kept("(99 * 100 + 1) * 101 - 1", 999_999);
        kept("(0 - 99 * 100 - 1) * 101 + 1", -999_999);
        kept("999 * 7 * 11 * 13 - 1", 999_998);
        kept("999 * 999 * 999", MOST);
        kept("(0 - 999) * 999 * 999", -MOST);
        String million = "(500 * 500 * 4)";
        kept(million + " * " + million, MOST);
        kept("(0 - " + million + ") * " + million, -MOST);
        kept("(0 - " + million + ") * (0 - " + million + ")", MOST);
        kept(million + " * " + million + " * 0", 0);
        kept(million + " + " + million + " - " + million, 0);
        kept("0 - " + million + " - " + million + " + " + million, 0);
        kept(million + " * 2 * (0 - 1)", -MOST);
        kept(million + " - (0 - " + million + ") - 1", 999_999);
    }

    private static void withoutLaws() {
        says("It MAY live there, if may holds (without one: always). WORTH by the law (without one: 0).");
        FloorsByLot x = of(FOUR.substring(0, FOUR.indexOf("may")));
        for (int h = 0; h < 3; h++) {
            for (int f = 0; f < 4; f++) {
                due(x.may(h, f), 1);
                due(x.worth(h, f), 0);
            }
        }
        due(of(ONE + "may : 1 = 1;").worth(0, 0), 0);
        due(of(ONE + "worth : 0 - 5;").may(0, 0), 1);
        due(of(ONE + "may : 0 = 1;").may(0, 0), 0);
        due(of(ONE + "worth : 0;").worth(0, 0), 0);
    }

    private static void mapIs(FloorsByLot x, int number, int... flats) {
        for (int h = 0; h < flats.length; h++) {
            due(x.inMap(number, h), flats[h]);
        }
    }

    private static void mapsByNumbers() {
        says("A MAP: each HOUSEHOLD (AWAY or not) has a FLAT where it MAY live, unlike ones");
        due(of(flats(2) + households(2)).maps(), 2);
        due(of(flats(2) + households(2) + "lives 1 0;").maps(), 2);
        due(of(flats(2) + households(3)).maps(), 0);
        due(of(households(1)).maps(), 0);
        due(of(flats(8) + households(7)).maps(), 40320);
        due(of(flats(7) + households(7)).maps(), 5040);
        due(of(flats(6) + households(7)).maps(), 0);
        due(of(flats(8) + households(1)).maps(), 8);
        due(of(flats(8) + households(7) + "may : 1 = 2;").maps(), 0);
        due(of(flats(8) + households(7) + "may : floor < 7;").maps(), 5040);
        due(of(flats(8) + households(7) + "may : floor < 6;").maps(), 0);
        says("the first MAP is that in which HOUSEHOLD 0 has the least FLAT, of these HOUSEHOLD 1, and so on. MAPS are numbered so from 0 on.");
        FloorsByLot x = of(TALL);
        int[][] maps = {{0, 1}, {0, 2}, {1, 0}, {1, 2}, {2, 0}, {2, 1}};
        for (int n = 0; n < maps.length; n++) {
            mapIs(x, n, maps[n]);
        }
        due(x.inMap(6, 0), NONE);
        FloorsByLot full = of(flats(8) + households(7));
        mapIs(full, 0, 0, 1, 2, 3, 4, 5, 6);
        mapIs(full, 1, 0, 1, 2, 3, 4, 5, 7);
        mapIs(full, 5039, 0, 7, 6, 5, 4, 3, 2);
        mapIs(full, 5040, 1, 0, 2, 3, 4, 5, 6);
        mapIs(full, 40319, 7, 6, 5, 4, 3, 2, 1);
        due(full.inMap(40320, 6), NONE);
    }

    private static void withoutHouseholds() {
        says("(Without HOUSEHOLDS: one.)");
        for (String text : new String[] {"", "flat 0 0 size 1;", flats(8), "quarter 9;may : 1 = 2;", flats(3) + "may : 1 = 2;worth : floor;"}) {
            FloorsByLot x = of(text);
            due(x.maps(), 1);
            due(x.thisMap(), 0);
            due(x.allElse(), 1);
            due(x.nearest(), 0);
            due(x.best(0), 0);
            due(x.fairest(0), 0);
            due(x.stillest(0), 0);
            due(x.best(10), NONE);
            due(x.moving(0, 0), 0);
            due(x.moving(0, 1), 0);
            due(x.moving(1, 0), NONE);
            due(x.tooMany(), 0);
            due(x.bestMending(), NONE);
            due(x.draws(Integer.MAX_VALUE), 0);
            due(x.inMap(0, 0), -2);
        }
    }

    private static void drawModulo() {
        says("MAP n modulo MAPS is how they live then; TIMES of each there is 1 more; QUARTER is 1 more.");
        FloorsByLot x = of(TALL);
        int[] numbers = {0, 5, 6, 7, 11, 12, Integer.MAX_VALUE, Integer.MAX_VALUE - 1};
        int[] maps = {0, 5, 0, 1, 5, 0, 1, 0};
        for (int n = 0; n < numbers.length; n++) {
            due(x.draws(numbers[n]), maps[n]);
            due(x.thisMap(), maps[n]);
            due(x.household(0, 5), x.inMap(maps[n], 0));
            due(x.household(1, 5), x.inMap(maps[n], 1));
            due(x.count(3), n + 1);
            due(x.count(2), 0);
        }
        int[][] times = {{6, 0, 2}, {0, 6, 2}};
        for (int h = 0; h < 2; h++) {
            for (int f = 0; f < 3; f++) {
                due(x.times(h, f), times[h][f]);
            }
        }
        FloorsByLot far = of(TALL);
        tray(far, 0, Long.MAX_VALUE, 4000 + 6_000_000_000L, 4000 + 6_000_000_005L);
        due(far.perform(0), 3);
        due(far.thisMap(), 5);
        due(far.times(0, 0), 1);
        due(far.times(0, 2), 1);
        // 2 to the 63rd less 1, less 4000, leaves 3 by 6
        due(far.times(0, 1), 1);
    }

    private static void lawsAsAllIsAhead() {
        says("Laws in a MAP: as all is ahead of it.");
        FloorsByLot was = of(TALL + "lives 0 0;lives 1 1;may : was = 0;");
        due(was.maps(), 3);
        mapIs(was, 0, 1, 0);
        due(was.draws(0), 0);
        due(was.household(0, 5), 1);
        mapIs(was, 0, 0, 1);
        FloorsByLot times = of(flats(2) + households(2) + "may : times = 0;");
        due(times.draws(0), 0);
        due(times.maps(), 1);
        due(times.draws(0), 0);
        due(times.household(0, 5), 1);
        due(times.maps(), 0);
        due(times.draws(0), -5);
        FloorsByLot quarter = of(flats(2) + households(1) + "quarter 1;may : quarter = floor + 1;");
        due(quarter.draws(0), 0);
        due(quarter.household(0, 5), 0);
        due(quarter.draws(0), 0);
        due(quarter.household(0, 5), 1);
        due(quarter.draws(0), -5);
    }

    private static String living(int many) {
        StringBuilder text = new StringBuilder();
        for (int h = 0; h < many; h++) {
            text.append("lives ").append(h).append(' ').append(h).append(';');
        }
        return text.toString();
    }

    private static String numbered(int many) {
        StringBuilder text = new StringBuilder();
        for (int h = 0; h < many; h++) {
            text.append("household ").append(h + 1).append(';');
        }
        return text.toString();
    }

    private static void rings() {
        says("each HOUSEHOLD that isn't AWAY points at the FLAT of those lived in, at first all, where it MAY live, of most WORTH to it (its own counts, MAY or not; of like ones the least)");
        FloorsByLot empty = of(flats(3) + households(2) + "lives 0 0;worth : floor;");
        due(empty.rings(), 0);
        due(empty.byRings(0), 0);
        due(empty.byRings(1), NONE);
        due(of(flats(3) + households(2)).rings(), 0);
        due(of("").rings(), 0);
        FloorsByLot unlawful = of(flats(2) + households(2) + living(2) + "may : 1 = 2;worth : 0 - was;");
        due(unlawful.rings(), 0);
        due(unlawful.byRings(1), 1);
        FloorsByLot least = of(flats(3) + households(3) + "lives 0 1;lives 1 2;lives 2 0;");
        due(least.byRings(0), 1);
        due(least.byRings(1), 2);
        due(least.byRings(2), 0);
        FloorsByLot like = of(flats(3) + numbered(3) + living(3) + "worth : (people - 3) * was;");
        // household 0 (worth 0 elsewhere, -2 at home) points at the lesser of flats 1 and 2, which points at 0; 2 points at 0 too, and then keeps its own
        due(like.byRings(0), 1);
        due(like.byRings(1), 0);
        due(like.byRings(2), 2);
        says("whoever comes round gets these FLATS, and both go out of it (they and FLATS); and so on with the others, till all are out. RINGS: all of that, done at once.");
        FloorsByLot seven = of(flats(7) + numbered(7) + living(7) + "may : floor = people or floor = people - 7;worth : 1 - was;");
        due(seven.ringsMany(), 1);
        due(seven.rings(), 7);
        for (int h = 0; h < 7; h++) {
            due(seven.household(h, 5), (h + 1) % 7);
        }
        FloorsByLot alone = of(flats(7) + numbered(7) + living(7) + "worth : was;");
        due(alone.ringsMany(), 0);
        due(alone.rings(), 0);
        FloorsByLot dear = of(flats(7) + numbered(7) + living(7) + "worth : floor;");
        for (int h = 0; h < 7; h++) {
            due(alone.byRings(h), h);
            due(dear.byRings(h), h);
        }
        FloorsByLot dislike = of(flats(2) + households(2) + living(2) + "worth : 0 - 5 - was;");
        due(dislike.rings(), 2);
        FloorsByLot hate = of(flats(2) + households(2) + living(2) + "worth : 1 - was - 999 * 999 * 999;");
        due(hate.worth(0, 0), -1_000_000);
        due(hate.worth(0, 1), -999_999);
        due(hate.rings(), 2);
        FloorsByLot pairs = of(flats(8) + numbered(7) + living(7) + "may : floor = people and not floor = 2 and not floor = 4 and not floor = 6 or floor = people - 2 and not floor = 1 and not floor = 3 and not floor = 5;worth : 1 - was;");
        due(pairs.ringsMany(), 3);
        due(pairs.rings(), 6);
        int[] gets = {1, 0, 3, 2, 5, 4, 6};
        for (int h = 0; h < 7; h++) {
            due(pairs.household(h, 5), gets[h]);
        }
        FloorsByLot chain = of(flats(4) + numbered(4) + living(4) + "worth : floor;");
        // all want the highest, whose household keeps it, and so on down
        due(chain.rings(), 0);
        due(chain.ringsMany(), 0);
        FloorsByLot late = of(flats(3) + numbered(3) + "lives 0 0;lives 1 1;lives 2 2;worth : (floor - 1) * floor * 50 + floor * (3 - people * 2);");
        // flat 2 goes out at once with household 2; then 0 wants flat 1 and 1 wants flat 0
        due(late.ringsMany(), 1);
        due(late.rings(), 2);
        due(late.household(0, 5), 1);
        due(late.household(1, 5), 0);
        due(late.household(2, 5), 2);
    }

    private static void moveAndLeave() {
        says("To LEAVE: a HOUSEHOLD is AWAY. To MOVE: a HOUSEHOLD (AWAY or not) to an EMPTY FLAT where it MAY live.");
        FloorsByLot x = of(TALL + "lives 0 1;may : floor < 9 or people > 1;");
        due(x.moves(1, 1), -12);
        due(x.moves(0, 1), -12);
        due(x.moves(1, 2), -13);
        due(x.moves(1, 0), 0);
        due(x.moves(0, 0), -12);
        due(x.leaves(0), 1);
        due(x.household(0, 5), NONE);
        due(x.flat(1, 5), NONE);
        due(x.moves(1, 1), 3);
        due(x.flat(0, 5), NONE);
        due(x.flat(1, 5), 1);
        due(x.leaves(0), -12);
        FloorsByLot was = of(TALL + "lives 0 1;may : was = 1;");
        due(was.moves(0, 0), -13);
        due(was.leaves(0), 1);
        due(was.moves(0, 1), -13);
    }

    private static void faultMore() {
        says("A FLAT has a FAULT more (9 at most), or is MENDED: none.");
        FloorsByLot x = of("flat 0 0 size 1 faults 8;flat 1 0 size 1 faults 9;flat 2 0 size 1;");
        due(x.spoils(0), 9);
        due(x.spoils(0), -12);
        due(x.spoils(1), -12);
        due(x.spoils(2), 1);
        due(x.flat(0, 4), 9);
        due(x.mends(0), 9);
        due(x.flat(0, 4), 0);
        due(x.mends(0), -12);
        due(x.mends(2), 1);
        due(x.mends(2), -12);
        due(x.spoils(0), 1);
        due(x.count(5), 10);
    }

    private static int whyOf(FloorsByLot x, long deed) {
        tray(x, 3, deed);
        int why = x.judge(3, 1);
        due(x.judge(3, 0), why == 0 ? NONE : 0);
        return why;
    }

    private static void deedsInATray() {
        says("0 to 699: HOUSEHOLD v by 100 MOVES to FLAT v modulo 100; 1000 and a HOUSEHOLD: it LEAVES; 2000 and a FLAT: a FAULT; 2100 and a FLAT: MENDED; 3000: RINGS; 4000 and more: a DRAW by v less 4000.");
        FloorsByLot x = of(flats(8).replace("size 1", "size 1 faults 1") + households(7) + living(6));
        long[] can = {607, 606, 7, 507, 1000, 1005, 2000, 2007, 2100, 2107, 3000, 4000, 4001, 44319, 44320, Long.MAX_VALUE};
        for (long v : can) {
            due(whyOf(x, v), 0);
        }
        long[] none = {
            -1, -100, -1000, -3000, -4000, Long.MIN_VALUE, 8, 99, 608, 699, 700, 707, 799, 800, 999, 1007, 1099, 1999, 2008, 2099,
            2108, 2199, 2999, 3001, 3999, (1L << 32) * -1 + 3000, Long.MIN_VALUE + 607
        };
        for (long v : none) {
            due(whyOf(x, v), 1);
        }
        tray(x, 0, 607, 1000, 600, 2000, 2107, 3000, 44320 - 1);
        due(x.perform(0), 7);
        due(x.thisMap(), 40319);
        due(x.flat(0, 4), 2);
        due(x.flat(7, 4), 0);
        due(x.count(3), 1);
        FloorsByLot small = of(TALL);
        due(whyOf(small, 102), 0);
        due(whyOf(small, 103), 1);
        due(whyOf(small, 200), 1);
        due(whyOf(small, 1002), 1);
        due(whyOf(small, 2002), 0);
        due(whyOf(small, 2003), 1);
        due(whyOf(small, 2103), 1);
        FloorsByLot empty = new FloorsByLot();
        for (long v : new long[] {0, 1000, 2000, 2100}) {
            due(whyOf(empty, v), 1);
        }
        due(whyOf(empty, 3000), 0);
        due(whyOf(empty, 4000), 0);
    }

    private static void whyNot() {
        says("Why not: 1 no such HOUSEHOLD, FLAT, number; 2 the FLAT isn't EMPTY, it is AWAY (to LEAVE), has 9 FAULTS, none (to be MENDED), there are no MAPS; 3 it MAY not.");
        FloorsByLot x = of("flat 0 0 size 1 faults 9;flat 1 0 size 1;flat 2 0 size 1 faults 8;household 1;household 1;lives 0 0;may : 1 = 2;");
        due(whyOf(x, 200), 1);
        due(whyOf(x, 3), 1);
        due(whyOf(x, 203), 1);
        due(whyOf(x, 3500), 1);
        due(whyOf(x, 0), 2);
        due(whyOf(x, 100), 2);
        due(whyOf(x, 1001), 2);
        due(whyOf(x, 2000), 2);
        due(whyOf(x, 2101), 2);
        due(whyOf(x, 4000), 2);
        due(whyOf(x, 1), 3);
        due(whyOf(x, 102), 3);
        due(whyOf(x, 1000), 0);
        due(whyOf(x, 2002), 0);
        due(whyOf(x, 2100), 0);
        due(whyOf(x, 2102), 0);
        tray(x, 0, 1000, 1000);
        due(x.judge(0, 0), 1);
        due(x.judge(0, 1), 2);
        tray(x, 0);
        due(x.judge(0, 0), NONE);
        due(x.judge(0, 1), 0);
        tray(x, 0, 2002, 2002);
        due(x.judge(0, 0), 1);
        tray(x, 0, 2102, 2102);
        due(x.judge(0, 0), 1);
    }

    private static void undone() {
        says("can be UNDONE each as a whole, the latest first, 10 at most (eldest are forgotten)");
        for (int calls = 0; calls <= 23; calls++) {
            FloorsByLot x = of(flats(8) + households(1));
            for (int n = 0; n < calls; n++) {
                due(x.draws(n), n % 8);
                due(x.count(6), Math.min(10, n + 1));
            }
            int can = Math.min(10, calls);
            due(x.undo(can + 1), -3);
            for (int n = 1; n <= can; n++) {
                due(x.undo(1), can - n);
                due(x.count(3), calls - n);
                due(x.household(0, 5), calls == n ? NONE : (calls - n - 1) % 8);
            }
            due(x.undo(1), -3);
            due(x.count(3), calls - can);
        }
        FloorsByLot again = of(flats(8) + households(1));
        for (int round = 0; round < 4; round++) {
            for (int n = 0; n < 7; n++) {
                again.draws(n);
            }
            due(again.undo(4), Math.min(10, 3 * round + 7) - 4);
            due(again.count(3), 3 * round + 3);
        }
        due(again.undo(6), 0);
        due(again.count(3), 6);
    }

    private static void undoneAsAWhole() {
        says("who lives where, TIMES, FAULTS, QUARTER.");
        FloorsByLot x = of(FOUR);
        tray(x, 0, 1000, 1001, 2000, 2103, 4003, 3000, 4000);
        int[] ahead = facts(x);
        due(x.perform(0), 7);
        due(x.count(6), 1);
        int[] then = facts(x);
        due(Arrays.equals(ahead, then) ? 1 : 0, 0);
        due(x.year(5, 30) > 0 ? 1 : 0, 1);
        due(x.count(6), 2);
        due(x.undo(1), 1);
        due(Arrays.equals(then, facts(x)) ? 1 : 0, 1);
        due(x.undo(1), 0);
        due(Arrays.equals(ahead, facts(x)) ? 1 : 0, 1);
        x.draws(1);
        x.spoils(1);
        x.mends(1);
        x.leaves(0);
        x.moves(0, 0);
        due(x.count(6), 5);
        due(x.undo(5), 0);
        due(Arrays.equals(ahead, facts(x)) ? 1 : 0, 1);
    }

    /** Each kind of call, made behind another one, is undone to what was right ahead of it. */
    private static void undoneSingly() {
        says("can be UNDONE each as a whole, the latest first");
        List<Consumer<FloorsByLot>> calls = List.of(x -> x.draws(1), x -> x.draws(0), FloorsByLot::rings, x -> x.leaves(0), x -> x.moves(0, 2),
            x -> x.spoils(0), x -> x.mends(0), x -> x.perform(0), x -> x.year(9, 30));
        for (Consumer<FloorsByLot> first : calls) {
            for (Consumer<FloorsByLot> second : calls) {
                FloorsByLot x = of(TALL.replace("size 1", "size 1 faults 1") + "lives 0 0;lives 1 1;worth : 1 - was;");
                tray(x, 0, 4004, 1000, 2001, 2100);
                x.spoils(1);
                first.accept(x);
                int[] ahead = facts(x);
                int can = x.count(6);
                second.accept(x);
                if (x.count(6) > can) {
                    due(x.undo(1), can);
                }
                due(Arrays.equals(ahead, facts(x)) ? 1 : 0, 1);
            }
        }
    }

    private static int[] facts(FloorsByLot x) {
        int[] facts = new int[200];
        int at = 0;
        for (int h = 0; h < x.count(1); h++) {
            facts[at++] = x.household(h, 5);
            for (int f = 0; f < x.count(0); f++) {
                facts[at++] = x.times(h, f);
            }
        }
        for (int f = 0; f < x.count(0); f++) {
            facts[at++] = x.flat(f, 4);
            facts[at++] = x.flat(f, 5);
        }
        facts[at++] = x.count(3);
        return facts;
    }

    private static void ringsAside() {
        says("Calls that did some (RINGS by which none lives elsewhere aside)");
        FloorsByLot x = of(SWAP);
        due(x.rings(), 2);
        due(x.count(6), 1);
        due(x.rings(), 0);
        due(x.count(6), 1);
        tray(x, 0, 3000);
        due(x.perform(0), 1);
        due(x.count(6), 1);
        tray(x, 0, 3000, 2001);
        due(x.perform(0), 2);
        due(x.count(6), 2);
        tray(x, 0, 2001, 3000);
        due(x.perform(0), 2);
        due(x.count(6), 3);
        due(x.undo(1), 2);
        tray(x, 0, 3001, 3000);
        due(x.perform(0), 0);
        due(x.count(6), 2);
        tray(x, 0);
        due(x.perform(0), 0);
        due(x.count(6), 2);
        x.undo(2);
        tray(x, 0, 3000);
        due(x.perform(0), 1);
        due(x.count(6), 1);
        due(new FloorsByLot().rings(), 0);
        int seed = seedOf(3, 1);
        FloorsByLot year = of(SWAP);
        due(year.year(seed, 1), 1);
        due(year.count(6), 1);
        due(year.year(seed, 1), 1);
        due(year.count(6), 1);
    }

    private static void ofLikeOnes() {
        says("BEST: the MAP of most WORTH in sum; FAIREST: that in which the least WORTH of one is greatest; STILLEST: that of the least HARM; of like ones the first MAP.");
        FloorsByLot x = of(flats(8).replace("flat 1 0", "flat 9 3") + households(7));
        for (int h = 0; h < 7; h++) {
            due(x.best(10 + h), h);
            due(x.fairest(10 + h), h);
            due(x.stillest(10 + h), h);
        }
        FloorsByLot two = of(flats(3) + numbered(2) + "worth : floor * 2 - floor * floor;");
        // worth by flat: 0, 1, 0: best and fairest of 0 + 1, so the first map
        due(two.best(0), 1);
        due(two.best(10), 0);
        due(two.best(11), 1);
        due(two.fairest(0), 0);
        due(two.fairest(10), 0);
        due(two.fairest(11), 1);
        FloorsByLot later = of(flats(4) + households(2) + "worth : (floor - 1) * (floor - 2) * (0 - 1);");
        due(later.best(0), 0);
        due(later.best(10), 1);
        due(later.best(11), 2);
        due(later.fairest(10), 1);
        due(later.fairest(11), 2);
        FloorsByLot still = of("flat 0 0 size 1;flat 1 0 size 1;flat 2 0 size 1;household 1 noise 1 ears 1;household 1 noise 1 ears 1;");
        due(still.stillest(0), 0);
        due(still.stillest(10), 0);
        due(still.stillest(11), 2);
    }

    private static int harmOf(String upper, String lower) {
        return of("flat " + upper + " size 1;flat " + lower + " size 1;household 1 noise 7 ears 5;household 1 noise 3 ears 11;lives 0 0;lives 1 1;").harm();
    }

    private static void harm() {
        says("HARM of a MAP: for each two of whom one lives right above the other (one FLOOR more, one COLUMN): noise of the upper one times ears of the lower one, all together.");
        due(harmOf("1 0", "0 0"), 77);
        due(harmOf("0 0", "1 0"), 15);
        due(harmOf("9 3", "8 3"), 77);
        due(harmOf("8 3", "9 3"), 15);
        due(harmOf("2 0", "0 0"), 0);
        due(harmOf("0 0", "9 0"), 0);
        due(harmOf("9 0", "0 0"), 0);
        due(harmOf("1 1", "0 0"), 0);
        due(harmOf("1 0", "0 1"), 0);
        due(harmOf("1 0", "1 1"), 0);
        due(harmOf("0 3", "1 0"), 0);
        StringBuilder full = new StringBuilder(flats(8));
        for (int h = 0; h < 7; h++) {
            full.append("household 1 noise 99 ears 99;");
        }
        FloorsByLot most = of(full.toString());
        due(most.harm(), 0);
        most.draws(0);
        due(most.harm(), 6 * 99 * 99);
        due(most.stillest(0), 5 * 99 * 99);
        // the gap is within, so that two pairs are parted, and as high as can be, so that the map is the first
        int[] still = {0, 1, 2, 3, 4, 5, 7};
        for (int h = 0; h < 7; h++) {
            due(most.stillest(10 + h), still[h]);
        }
    }

    private static void envies() {
        says("a ENVIES b, if both live, a MAY live in b's FLAT, and it has more WORTH to a than its own. TWO WOULD SWAP, if each ENVIES the other.");
        String text = flats(3) + numbered(3);
        FloorsByLot like = of(text + living(3) + "worth : 5;");
        due(like.envies(0), 0);
        due(like.wouldSwap(), NONE);
        FloorsByLot more = of(text + living(3) + "worth : floor;");
        due(more.envies(0), 6);
        due(more.envies(1), 4);
        due(more.envies(2), 0);
        due(more.wouldSwap(), NONE);
        FloorsByLot away = of(text + "lives 0 0;lives 2 2;worth : floor;");
        due(away.envies(0), 4);
        due(away.envies(1), 0);
        FloorsByLot may = of(text + living(3) + "worth : floor;may : floor = 1;");
        due(may.envies(0), 2);
        FloorsByLot own = of(text + living(3) + "worth : 1 - was;may : was = 0;");
        for (int h = 0; h < 3; h++) {
            due(own.envies(h), 7 & ~(1 << h));
        }
        due(own.wouldSwap(), 1);
        FloorsByLot last = of(flats(8) + numbered(7) + living(7) + "worth : 1 - was;may : people > 5;");
        due(last.envies(6), 63);
        due(last.envies(5), 95);
        due(last.envies(4), 0);
        due(last.wouldSwap(), 56);
        due(new FloorsByLot().wouldSwap(), NONE);
    }

    private static void movingIs(FloorsByLot x, int map, int floors, int trips) {
        due(x.moving(map, 0), floors);
        due(x.moving(map, 1), trips);
    }

    private static void movingDay() {
        says("AWAY ones are in the STORE at first. Who lives in its FLAT of the MAP already stays.");
        FloorsByLot away = of(TALL);
        movingIs(away, 0, 3, 2);
        movingIs(away, 3, 3 + 3 + 9, 2);
        movingIs(away, 4, 9, 2);
        FloorsByLot home = of(TALL + "lives 0 1;lives 1 2;");
        movingIs(home, 3, 0, 0);
        movingIs(home, 2, 9 + 9, 1);
        says("one lift, at FLOOR 0 at first, takes one HOUSEHOLD at a time from where it is to its FLAT of the MAP, if that is EMPTY by then, or to the STORE (FLOOR 0, room for all; from there on to its FLAT alone)");
        FloorsByLot swap = of("flat 9 0 size 1;flat 9 1 size 1;household 1;household 1;lives 0 0;lives 1 1;");
        // up 9, one down 9, up 9, the other across, down 9, up 9
        movingIs(swap, 1, 45, 3);
        FloorsByLot ground = of("flat 0 0 size 1;flat 0 1 size 1;flat 0 2 size 1;household 1;household 1;lives 0 0;lives 1 1;");
        due(ground.inMap(2, 0), 1);
        movingIs(ground, 2, 0, 3);
        due(ground.inMap(3, 1), 2);
        movingIs(ground, 3, 0, 2);
        FloorsByLot all = of(flats(8) + households(7) + living(7));
        // each goes one up, the highest first: up to 6, then 1 up and 2 down for each, the last without the way down
        int oneUp = 5040 + 720 + 120 + 24 + 6 + 2 + 1;
        for (int h = 0; h < 7; h++) {
            due(all.inMap(oneUp, h), h + 1);
        }
        movingIs(all, oneUp, 6 + 7 + 6 * 2, 7);
        movingIs(all, 0, 0, 0);
        says("FLOORS gone, empty or with a load, together: the fewest, and of such ways the fewest TRIPS.");
        FloorsByLot few = of("flat 0 0 size 1;flat 5 0 size 1;household 1;household 1;lives 0 0;lives 1 1;");
        // 0 to the store for nothing, up 5, 1 down 5, 0 up 5
        movingIs(few, 1, 15, 3);
    }

    private static void seenIs(FloorsByLot x, int due, long... walls) {
        tray(x, 0, walls);
        due(x.seen(0), due);
    }

    private static void seen() {
        says("SEEN in a TRAY (as many numbers as FLATS: the HOUSEHOLD that lived there, NONE not seen, 99 nobody): MAPS in which it were so.");
        FloorsByLot x = of(TALL);
        seenIs(x, 6, -1, -1, -1);
        seenIs(x, 2, 0, -1, -1);
        seenIs(x, 2, -1, -1, 1);
        seenIs(x, 2, -1, 99, -1);
        seenIs(x, 1, 0, 1, 99);
        seenIs(x, 1, 99, -1, 1);
        seenIs(x, 0, 99, 99, -1);
        seenIs(x, 0, 0, 0, -1);
        seenIs(x, -3, -2, -1, -1);
        seenIs(x, -3, -1, -1, 2);
        seenIs(x, -3, 98, -1, -1);
        seenIs(x, -3, -1, 100, -1);
        seenIs(x, -3, 1L << 32, -1, -1);
        seenIs(x, -4, -1, -1);
        seenIs(x, -4, -1, -1, -1, -1);
        seenIs(x, -4);
        FloorsByLot full = of(flats(8) + households(7));
        seenIs(full, 40320, -1, -1, -1, -1, -1, -1, -1, -1);
        seenIs(full, 1, 99, 0, 1, 2, 3, 4, 5, 6);
        seenIs(full, 5040, 99, -1, -1, -1, -1, -1, -1, -1);
        seenIs(full, 5040, -1, -1, -1, -1, -1, -1, -1, 6);
        seenIs(full, -3, -1, -1, -1, -1, -1, -1, -1, 7);
        FloorsByLot empty = new FloorsByLot();
        seenIs(empty, 1);
        seenIs(empty, -4, -1);
        seenIs(of(flats(2)), 1, 99, -1);
        seenIs(of(households(1)), 0);
    }

    /** The next number by the document's words, in longs, so that no wrap-around of Java's own is leant on. */
    private static long[] next(long x) {
        long then = (1103515245L * x + 12345L) & 0xffffffffL;
        return new long[] {then, then >> 16};
    }

    /** The first seed from a number on whose first number is of a kind modulo 5. */
    private static int seedOf(int kind, int from) {
        int seed = from;
        while (next(seed & 0xffffffffL)[1] % 5 != kind) {
            seed++;
        }
        return seed;
    }

    private static void years() {
        says("A YEAR by a SEED (x, an int; a DRAW of numbers: x becomes 1103515245 x + 12345, it is x >>> 16): so many times (1 to 30): number modulo 5: 0 and 1 a DRAW by the next number; 2 HOUSEHOLD number modulo HOUSEHOLDS MOVES to FLAT number modulo FLATS; 3 RINGS; 4 FLAT number modulo FLATS has a FAULT; as in a TRAY, if it can be.");
        int[] seeds = {0, 1, -1, Integer.MIN_VALUE, Integer.MAX_VALUE, 2026, 0x7fff0000, 0xffff0000};
        for (int seed : seeds) {
            for (int times : new int[] {1, 2, 29, 30}) {
                yearIs(flats(8) + numbered(7) + living(7) + "worth : (floor - people) * (people - 3);", seed, times);
                yearIs(TALL + "lives 0 1;may : floor > 0 or times < 3;worth : 1 - was;", seed, times);
                yearIs("flat 0 0 size 1 faults 8;household 1;household 1;lives 1 0;", seed, times);
            }
        }
        for (int kind = 0; kind < 5; kind++) {
            for (int from : new int[] {1, -1000, Integer.MIN_VALUE, 1 << 30}) {
                yearIs(TALL + "lives 0 1;lives 1 0;worth : (1 - was) * 3;", seedOf(kind, from), 1);
                yearIs(ONE, seedOf(kind, from), 1);
                yearIs(ONE, seedOf(kind, from + 100), 1);
                yearIs(ONE + flats(8).substring(16), seedOf(kind, from), 30);
            }
        }
        FloorsByLot x = of(TALL);
        due(x.year(1, 0), -3);
        due(x.year(1, 31), -3);
        for (int times : FAR) {
            due(x.year(1, times), -3);
        }
    }

    private static void yearIs(String text, int seed, int times) {
        FloorsByLot year = of(text);
        FloorsByLot single = of(text);
        int households = single.count(1);
        int flats = single.count(0);
        long[] lot = {seed & 0xffffffffL, 0};
        int could = 0;
        for (int n = 0; n < times; n++) {
            lot = next(lot[0]);
            int kind = (int) (lot[1] % 5);
            if (kind == 3) {
                single.rings();
                could++;
                continue;
            }
            lot = next(lot[0]);
            int number = (int) lot[1];
            if (kind < 2) {
                could += single.draws(number) >= 0 ? 1 : 0;
            } else if (kind == 4) {
                could += single.spoils(number % flats) >= 0 ? 1 : 0;
            } else {
                lot = next(lot[0]);
                could += single.moves(number % households, (int) (lot[1] % flats)) >= 0 ? 1 : 0;
            }
        }
        due(year.year(seed, times), could);
        due(Arrays.equals(facts(year), facts(single)) ? 1 : 0, 1);
        due(year.count(6), Math.min(1, single.count(6)));
    }

    private static void trays() {
        says("TRAYS 0 to 3 are MISSING at first, or have 0 to 40 numbers of 8 bits (sort 0), 16 (1), 32 (2), 64 (3).");
        FloorsByLot x = new FloorsByLot();
        for (int t = 0; t < 4; t++) {
            due(x.write(t, 0, 1), -6);
            due(x.perform(t), -6);
            due(x.lists(t), -6);
            due(x.seen(t), -6);
            due(x.wall(t), -6);
            due(x.judge(t, 0), -6);
            due(x.numbers(t, t, 41), -3);
            due(x.write(t, 0, 1), -6);
            due(x.numbers(t, t, 0), 0);
            due(x.write(t, 0, 1), -7);
            due(x.numbers(t, t, 1), 0);
            due(x.write(t, 0, 1), 1);
            due(x.write(t, 1, 1), -7);
            due(x.numbers(t, t, 40), 0);
            due(x.write(t, 39, 1), 1);
            due(x.write(t, 40, 1), -7);
        }
        due(x.numbers(4, 0, 1), -2);
        due(x.numbers(-1, 0, 1), -2);
        long[] most = {127, 32767, Integer.MAX_VALUE, Long.MAX_VALUE};
        for (int t = 0; t < 4; t++) {
            due(x.write(t, 0, most[t]), most[t]);
            due(x.write(t, 0, most[t] + 1), -most[t] - 1);
            due(x.write(t, 0, -most[t] - 1), -most[t] - 1);
            due(x.write(t, 0, -most[t] - 2), most[t]);
            due(x.write(t, 0, 2 * most[t] + 1), -1);
            due(x.write(t, 0, 2 * most[t] + 2), 0);
            due(x.write(t, 0, -1), -1);
            due(x.write(t, 0, 0), 0);
        }
    }

    private static void images() {
        says("IMAGES 0 to 1: THE TOWER and what a call could bring back by UNDOING; nothing can be UNDONE behind (none at first).");
        FloorsByLot x = new FloorsByLot();
        due(x.restore(0), -5);
        due(x.restore(1), -5);
        due(x.image(-1), -2);
        due(x.image(2), -2);
        due(x.restore(2), -2);
        due(x.restore(-1), -2);
        due(x.image(1), 0);
        due(x.restore(0), -5);
        read(x, FOUR);
        x.draws(2);
        x.spoils(2);
        int[] then = facts(x);
        due(x.image(0), 0);
        due(x.count(6), 2);
        x.draws(1);
        x.year(3, 30);
        due(x.restore(0), 0);
        due(Arrays.equals(then, facts(x)) ? 1 : 0, 1);
        due(x.count(6), 0);
        due(x.undo(1), -3);
        due(x.count(8), 12);
        due(x.restore(1), 0);
        due(x.count(0), 0);
        due(x.count(8), 0);
        due(x.restore(0), 0);
        due(Arrays.equals(then, facts(x)) ? 1 : 0, 1);
        due(x.worth(1, 2), 9);
        due(x.may(0, 2), 0);
    }
}
