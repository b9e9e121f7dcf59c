/** Every boundary that the document's Terms name of a text: its length, its numbers, its tokens, its four kinds of fault. */
public final class TextBoundsTest extends Told {
    private static final String ONE = "flat 0 0 size 1;household 1;";
    private static final String SIGNS = ";:+-*()[]=<>";
    private static final String[][] LINES = {
        {"flat", "1", "2", "size", "3", "light", "4", "faults", "5", "light", "6", ";"},
        {"household", "1", "noise", "2", "ears", "3", "stairs", "4", "age", "5", "noise", "6", ";"},
        {"lives", "0", "0", ";"},
        {"may", ":", "not", "[", "1", "+", "2", "*", "3", "<", "(", "4", "-", "5", ")", "and", "6", "=", "7", "or", "8", ">", "9", "]", ";"},
        {"worth", ":", "(", "1", "+", "floor", ")", "*", "2", "-", "3", ";"},
        {"quarter", "999", ";"}
    };

    public static void main(String[] args) {
        atMost900Bytes();
        withoutOne();
        linesCut();
        boundsOfFlats();
        boundsOfHouseholds();
        noTwoOnOne();
        mostFlatsAndHouseholds();
        laterFlagsStrike();
        lives();
        boundsOfQuarter();
        laterLinesStrike();
        tokensGoOn();
        allBytes();
        digits();
        firstAlong();
        leastKind();
        cannotStand();
        outOfBounds();
        tooManyOfThem();
        sixWithinOneAnother();
        truths();
        sums();
        end();
    }

    private static void good(String text, int lines) {
        FloorsByLot x = new FloorsByLot();
        int answer = read(x, text);
        if (answer != lines) {
            complain("of '" + text + "', whose fault is " + x.fault(0) + " at " + x.fault(1));
        }
        due(answer, lines);
        due(x.fault(0), 0);
        due(x.fault(1), NONE);
    }

    private static void fault(String text, int kind, int place) {
        FloorsByLot x = new FloorsByLot();
        int answer = read(x, text);
        if (answer != -30 - kind || x.fault(1) != place) {
            complain("of '" + text + "', whose fault is " + x.fault(0) + " at " + x.fault(1));
        }
        due(answer, -30 - kind);
        due(x.fault(0), kind);
        due(x.fault(1), place);
    }

    private static void atMost900Bytes() {
        says("THE TOWER is a TEXT of at most 900 bytes");
        good(" ".repeat(890) + "quarter 5;", 1);
        good("quarter 1;".repeat(90), 90);
        fault(" ".repeat(891) + "quarter 5", 2, 900);
        fault("quarter 1;".repeat(89) + "quarter 1#", 1, 899);
        String sum = ONE + "worth:" + "1+".repeat(432) + "1;";
        due(sum.length(), 900);
        due(of(sum).worth(0, 0), 433);
        String truth = ONE + "may:" + "0=1or".repeat(172);
        due(of(truth + "1=1;    ").may(0, 0), 1);
        due(of(truth + "1=2;    ").may(0, 0), 0);
        String both = ONE + "may:" + "1=1and".repeat(144);
        due((both + "1=1;").length(), 900);
        due(of(both + "1=1;").may(0, 0), 1);
        due(of(both + "1=2;").may(0, 0), 0);
        String term = ONE + "worth:" + "1*".repeat(432) + "7;";
        due(of(term).worth(0, 0), 7);
        FloorsByLot laws = of(ONE + "may:1=2;worth:9;".repeat(54));
        due(laws.count(8), 110);
        due(laws.may(0, 0), 0);
        due(laws.worth(0, 0), 9);
    }

    private static void withoutOne() {
        says("(without one: no FLATS, no HOUSEHOLDS): { LINE ; }");
        for (FloorsByLot x : new FloorsByLot[] {new FloorsByLot(), of(""), of(" "), of("\n \n"), of(" ".repeat(900))}) {
            for (int what = 0; what < 9; what++) {
                due(x.count(what), 0);
            }
            due(x.flat(0, 0), -8);
            due(x.household(0, 0), -8);
            due(x.maps(), 1);
        }
        FloorsByLot x = of(FOUR);
        due(x.tower(0), 0);
        due(x.count(0), 0);
        due(x.count(1), 0);
        due(x.count(3), 0);
        due(x.maps(), 1);
        good("quarter 1;", 1);
        good("quarter 1; quarter 2 ;\n", 2);
    }

    /** Each line, cut behind each of its tokens; each of its tokens, in whose place there is one that can't be there. */
    private static void linesCut() {
        says("LINE: flat N N size N { FLAT } | household N { FLAG } | lives N N | may : TRUTH | worth : SUM | quarter N.");
        for (String[] line : LINES) {
            StringBuilder text = new StringBuilder(ONE);
            for (int i = 0; i < line.length; i++) {
                if (i > 0) {
                    fault(text.toString(), 2, text.length());
                    fault(text + " \n", 2, text.length() + 2);
                    fault(text + " flat 0 0 size 1;", 2, text.length() + 1);
                }
                fault(text + " attic " + line[i], 2, text.length() + 1);
                fault(text + " , " + line[i], 1, text.length() + 1);
                text.append(' ').append(line[i]);
            }
            good(text.toString(), 3);
            fault(text + ";", 2, text.length());
        }
        says("FLAT: light N | faults N. FLAG: noise N | ears N | stairs N | age N.");
        good("flat 1 2 size 3;", 1);
        good("household 1;", 1);
        for (String word : new String[] {"light", "faults"}) {
            good("flat 1 2 size 3 " + word + " 1;", 1);
            fault("household 1 " + word + " 1;", 2, 12);
        }
        for (String word : new String[] {"noise", "ears", "stairs", "age"}) {
            good("household 1 " + word + " 1;", 1);
            fault("flat 1 2 size 3 " + word + " 1;", 2, 16);
        }
        for (String word : new String[] {"floor", "column", "size", "people", "was", "times", "quarter", "flat", "not"}) {
            fault("household 1 " + word + " 1;", 2, 12);
            fault("flat 1 2 size 3 " + word + " 1;", 2, 16);
        }
    }

    /** Numbers from low to high stand between two pieces of a text, others don't. */
    private static void bounds(String ahead, String behind, int low, int high) {
        int lines = (ahead + behind).length() - (ahead + behind).replace(";", "").length();
        good(ahead + low + behind, lines);
        good(ahead + high + behind, lines);
        good(ahead + "0".repeat(3 - String.valueOf(high).length()) + high + behind, lines);
        if (low > 0) {
            fault(ahead + (low - 1) + behind, 3, ahead.length());
            fault(ahead + "00" + (low - 1) + behind, 3, ahead.length());
        }
        if (high < 999) {
            fault(ahead + (high + 1) + behind, 3, ahead.length());
            fault(ahead + "999" + behind, 3, ahead.length());
        }
    }

    private static void boundsOfFlats() {
        says("flat: FLOOR 0 to 9, COLUMN 0 to 3, size 1 to 99, light, FAULTS 0 to 9 (0)");
        bounds("flat ", " 0 size 1;", 0, 9);
        bounds("flat 0 ", " size 1;", 0, 3);
        bounds("flat 0 0 size ", ";", 1, 99);
        bounds("flat 0 0 size 1 light ", ";", 0, 9);
        bounds("flat 0 0 size 1 faults ", ";", 0, 9);
        bounds("flat 0 0 size 1 faults 3 light 4 faults ", " light 1;", 0, 9);
        int[][] told = {{9, 3, 99, 9, 9}, {0, 0, 1, 0, 0}, {5, 2, 50, 0, 0}};
        FloorsByLot x = of("flat 9 3 size 99 light 9 faults 9;flat 0 0 size 1 faults 0 light 0;flat 5 2 size 50;");
        for (int f = 0; f < 3; f++) {
            for (int what = 0; what < 5; what++) {
                due(x.flat(f, what), told[f][what]);
            }
        }
    }

    private static void boundsOfHouseholds() {
        says("household: people 1 to 99; noise, ears, stairs, age 0 to 99 (0)");
        bounds("household ", ";", 1, 99);
        for (String flag : new String[] {"noise", "ears", "stairs", "age"}) {
            bounds("household 1 " + flag + " ", ";", 0, 99);
            bounds("household 1 age 3 " + flag + " ", " noise 1;", 0, 99);
        }
        int[][] told = {{99, 99, 99, 99, 99}, {1, 0, 0, 0, 0}, {50, 0, 0, 0, 0}};
        FloorsByLot x = of("household 99 noise 99 ears 99 stairs 99 age 99;household 1 noise 0 ears 0 stairs 0 age 0;household 50;");
        for (int h = 0; h < 3; h++) {
            for (int what = 0; what < 5; what++) {
                due(x.household(h, what), told[h][what]);
            }
        }
    }

    private static void noTwoOnOne() {
        says("no two on one FLOOR and COLUMN");
        good("flat 1 2 size 1;flat 1 3 size 1;flat 2 2 size 1;flat 2 3 size 1;", 4);
        good("flat 1 2 size 1;flat 2 1 size 1;", 2);
        fault("flat 1 2 size 1;flat 1 2 size 1;", 3, 23);
        fault("flat 0 0 size 1;flat 00 000 size 9;", 3, 24);
        fault("flat 9 3 size 1;flat 9 2 size 1;flat 9 3 size 1;", 3, 39);
        fault("flat 9 3 size 1;flat 9 3", 3, 23);
    }

    private static void mostFlatsAndHouseholds() {
        says("numbered from 0 on, 8 at most.");
        good(flats(8), 8);
        fault(flats(9), 4, 128);
        FloorsByLot x = of("flat 3 0 size 10;flat 2 0 size 11;flat 1 0 size 12;flat 0 0 size 13;flat 3 1 size 14;flat 2 1 size 15;flat 1 1 size 16;flat 0 1 size 17;");
        for (int f = 0; f < 8; f++) {
            due(x.flat(f, 2), 10 + f);
        }
        due(x.flat(8, 2), -8);
        says("numbered from 0 on, 7 at most.");
        good(households(7), 7);
        fault(households(8), 4, 84);
        FloorsByLot y = of("household 10;household 11;household 12;household 13;household 14;household 15;household 16;");
        for (int h = 0; h < 7; h++) {
            due(y.household(h, 0), 10 + h);
        }
        due(y.household(7, 0), -8);
        good(flats(8) + households(7), 15);
        fault(flats(8) + households(8), 4, 128 + 84);
        fault(households(7) + flats(9), 4, 84 + 128);
    }

    private static void laterFlagsStrike() {
        says("Later ones of a flag's word strike.");
        FloorsByLot x = of("flat 0 0 size 1 light 1 faults 9 light 2 faults 0 light 3;household 1 noise 1 noise 0 ears 2 ears 7 age 1 age 2 age 3 stairs 9 stairs 4;");
        due(x.flat(0, 3), 3);
        due(x.flat(0, 4), 0);
        due(x.household(0, 1), 0);
        due(x.household(0, 2), 7);
        due(x.household(0, 3), 4);
        due(x.household(0, 4), 3);
        fault("flat 0 0 size 1 light 10 light 2;", 3, 22);
        fault("household 1 age 100 age 2;", 3, 16);
    }

    private static void lives() {
        says("lives: a HOUSEHOLD, a FLAT, both told ahead, neither of which is in a lives LINE ahead (whether it may or not); others are AWAY.");
        String told = flats(2) + households(3);
        bounds(told + "lives ", " 0;", 0, 2);
        bounds(told + "lives 0 ", ";", 0, 1);
        fault("lives 0 0;", 3, 6);
        fault("flat 0 0 size 1;lives 0 0;household 1;", 3, 22);
        fault("household 1;lives 0 0;flat 0 0 size 1;", 3, 20);
        fault(told + "lives 1 1;lives 1 0;", 3, 32 + 36 + 16);
        fault(told + "lives 1 1;lives 0 1;", 3, 32 + 36 + 18);
        fault(told + "lives 1 1;lives 1 1;", 3, 32 + 36 + 16);
        FloorsByLot x = of(told + "lives 2 0;lives 0 1;");
        due(x.household(0, 5), 1);
        due(x.household(1, 5), NONE);
        due(x.household(2, 5), 0);
        due(x.count(2), 1);
        FloorsByLot unlawful = of("may : 1 = 2;" + told + "lives 1 1;");
        due(unlawful.household(1, 5), 1);
        due(unlawful.may(1, 1), 0);
        due(of(told).count(2), 3);
        due(of(told + "lives 0 0;household 1;flat 5 0 size 1;lives 3 2;").flat(2, 5), 3);
    }

    private static void boundsOfQuarter() {
        says("quarter: 0 to 999 (0).");
        bounds("quarter ", ";", 0, 999);
        fault("quarter 1000;", 1, 8);
        due(of("quarter 999;").count(3), 999);
        due(of("quarter 000;").count(3), 0);
        due(of("").count(3), 0);
    }

    private static void laterLinesStrike() {
        says("Later ones of may, worth, quarter strike.");
        FloorsByLot x = of(ONE + "may : 1 = 1;worth : 5;quarter 3;may : 1 = 2;worth : 6 + 1;quarter 4;");
        due(x.may(0, 0), 0);
        due(x.worth(0, 0), 7);
        due(x.count(3), 4);
        due(x.count(8), 8);
        FloorsByLot y = of("may : 1 = 2;worth : 6 + 1;quarter 4;" + ONE + "may : 1 = 1 and 2 = 2;worth : 5;quarter 0;");
        due(y.may(0, 0), 1);
        due(y.worth(0, 0), 5);
        due(y.count(3), 0);
        due(read(y, ONE), 2);
        due(y.may(0, 0), 1);
        due(y.worth(0, 0), 0);
        fault("may : 1 < 2 < 3;may : 1 = 1;", 2, 12);
    }

    private static void tokensGoOn() {
        says("TOKENS, as long as they go on, between them blanks (10, 32): words (small letters), N (1 to 3 digits)");
        good("flat0 0size1light2faults3;household1noise2ears3stairs4age5;lives0 0;may:not1=2and[1<2]or(3)>2;worth:(1+floor)*2-3;quarter7;", 6);
        good("\nflat\n0\n0\nsize\n1\n;\n", 1);
        good("  flat  0 \n 0 \n\n size  1  ;  ", 1);
        fault("quarters 1;", 2, 0);
        fault("quarte 1;", 2, 0);
        fault("quar ter 1;", 2, 0);
        fault("flats 0 0 size 1;", 2, 0);
        fault("householdd 1;", 2, 0);
        fault("quarterquarter 1;", 2, 0);
        fault("may:notfloor=2;", 2, 4);
        fault("may:floor=1orfloor=2;", 2, 11);
        fault("worth:floorfloor;", 2, 6);
        fault("flat 00 size 1;", 2, 8);
        fault("quarter 1 2;", 2, 10);
        fault("worth : 1 2;", 2, 10);
        good("worth:was+times*quarter;", 1);
        fault("worth:a;", 2, 6);
        fault("worth:z;", 2, 6);
        fault("worth:nois;", 2, 6);
        fault("worth:noisea;", 2, 6);
    }

    /** What stands at the text's end, or between two numbers, is each of all bytes in turn. */
    private static void allBytes() {
        says("words (small letters), N (1 to 3 digits), the signs ; : + - * ( ) [ ] = < >.");
        for (int sign = 0; sign < 256; sign++) {
            boolean blank = sign == 10 || sign == 32;
            boolean digit = sign >= '0' && sign <= '9';
            boolean token = digit || sign >= 'a' && sign <= 'z' || SIGNS.indexOf(sign) >= 0;
            if (blank) {
                good("quarter 1;" + (char) sign, 1);
                good("" + (char) sign, 0);
                good("flat 0" + (char) sign + "0 size 1;", 1);
            } else {
                fault("quarter 1;" + (char) sign, token ? 2 : 1, 10);
                fault("" + (char) sign, token ? 2 : 1, 0);
                if (!digit) {
                    fault("flat 0" + (char) sign + "0 size 1;", token ? 2 : 1, 6);
                }
            }
        }
    }

    private static void digits() {
        says("1 no TOKEN begins so (4 digits and more: at their first).");
        good("quarter 7;quarter 07;quarter 007;", 3);
        fault("quarter 0007;", 1, 8);
        fault("quarter 9999;", 1, 8);
        fault("quarter " + "0".repeat(50) + ";", 1, 8);
        fault("quarter 4294967297;", 1, 8);
        fault("quarter 18446744073709551617;", 1, 8);
        fault("worth : 1 + 1000;", 1, 12);
        fault("flat 0000 0 size 1;", 1, 5);
        fault("#quarter 1;", 1, 0);
        fault("quarter 1;\t", 1, 10);
        fault("quarter 1;" + (char) 0, 1, 10);
        fault("quarter 1;" + (char) 13 + "\n", 1, 10);
        fault("Quarter 1;", 1, 0);
        fault("quarter -1;", 2, 8);
        fault("quarter 1.5;", 1, 9);
    }

    private static void firstAlong() {
        says("FAULTS, the first along the text");
        fault("flat 10 9 size 0 attic #", 3, 5);
        fault("flat 0 9 size 0 attic #", 3, 7);
        fault("flat 0 0 size 0 attic #", 3, 14);
        fault("flat 0 0 size 1 attic #", 2, 16);
        fault("flat 0 0 size 1 # attic", 1, 16);
        fault("quarter 1;quarter;#", 2, 17);
        fault(households(7) + "quarter 1000;household 1;", 1, 92);
        fault(households(8) + "quarter 1000;", 4, 84);
        fault("worth : (((((((1 #;", 4, 14);
        fault("worth : ((((((1 # (;", 1, 16);
    }

    private static void leastKind() {
        says("of one TOKEN the least kind");
        fault("1000;", 1, 0);
        fault("flat 0 0 1000;", 1, 9);
        fault("flat 10000 0 size 1;", 1, 5);
        fault("flat 0 0 100;", 2, 9);
        fault("flat 0 0 size 1 100;", 2, 16);
        fault("household 1 100;", 2, 12);
        fault("worth : ((((((not 1", 2, 14);
        fault("worth : (((((([1", 2, 14);
        fault("worth : (((((()", 2, 14);
        fault("may : [[[[[[and", 2, 12);
        fault("may : [[[[[[1 (", 2, 14);
        fault(flats(8) + "quarter flat 0 0 size 1;", 2, 136);
        fault(flats(8) + "flat 9 9 size 0;", 4, 128);
        fault(households(7) + "quarter 1 household 1;", 2, 94);
        fault(flats(8) + "Flat 0 0 size 1;", 1, 128);
    }

    private static void cannotStand() {
        says("2 it can't stand there (the end: the text's length).");
        fault("quarter", 2, 7);
        fault("quarter 1", 2, 9);
        fault("quarter 1 \n ", 2, 12);
        fault(";", 2, 0);
        fault("quarter 1;;", 2, 10);
        fault("attic 1;", 2, 0);
        fault("size 1;", 2, 0);
        fault("light 1;", 2, 0);
        fault("floor 1;", 2, 0);
        fault("not 1 = 1;", 2, 0);
        fault("flat 0 0 size 1 noise 1;", 2, 16);
        fault("flat 0 0 size 1 size 2;", 2, 16);
        fault("flat 0 0 size 1 column 2;", 2, 16);
        fault("flat 0 0 size 1 people 2;", 2, 16);
        fault("household 1 light 1;", 2, 12);
        fault("household 1 faults 1;", 2, 12);
        fault("household 1 people 1;", 2, 12);
        fault("household 1 was 1;", 2, 12);
        fault("may 1 = 1;", 2, 4);
        fault("may : ;", 2, 6);
        fault("worth : ;", 2, 8);
        fault("worth : flat;", 2, 8);
        fault("worth : household;", 2, 8);
        fault("worth : and;", 2, 8);
        fault("may : or 1 = 1;", 2, 6);
        fault("lives ;", 2, 6);
        fault("quarter : 1;", 2, 8);
    }

    private static void outOfBounds() {
        says("3 an N out of its bounds (a COLUMN where there is a flat on that FLOOR; a HOUSEHOLD, a FLAT that isn't told, that lives, is lived in).");
        fault("flat 2 1 size 1;flat 2 1 size 1;", 3, 23);
        fault("flat 2 1 size 1;lives 0 0;", 3, 22);
        fault("household 1;lives 0 0;", 3, 20);
        fault("household 1;lives 1 0;", 3, 18);
        fault(ONE + "lives 0 1;", 3, 36);
        fault(ONE + "lives 0 0;lives 0 0;", 3, 44);
        fault(ONE + "lives 0 0;household 1;lives 1 0;", 3, 58);
        good(ONE + "lives 0 0;household 1;flat 1 0 size 1;lives 1 1;", 6);
    }

    private static void tooManyOfThem() {
        says("4 the first TOKEN of a 9th flat, an 8th household; a seventh of not [ (.");
        fault(flats(8) + "\n flat", 4, 130);
        fault(flats(8) + "flat #", 4, 128);
        fault(flats(8) + "quarter 1;flat 9 3 size 1;", 4, 138);
        fault(households(7) + "household", 4, 84);
        fault(households(7) + "household 0;", 4, 84);
        fault(flats(8) + households(7) + "household 0;", 4, 212);
        for (String open : new String[] {"not ", "[", "("}) {
            fault("may : " + "not ".repeat(6) + open + "1 = 1;", 4, 30);
            fault("may : " + "[".repeat(6) + open + "1 = 1;", 4, 12);
            fault("may : not [not [not [" + open + "1 = 1;", 4, 21);
        }
        fault("may : " + "(".repeat(6) + "(1 = 1;", 4, 12);
        fault("worth : " + "(".repeat(7) + "1;", 4, 14);
        fault("worth : " + "(".repeat(20), 4, 14);
        fault("may : " + "not ".repeat(100), 4, 30);
        fault("may : " + "[".repeat(800), 4, 12);
        fault("may : [[[not ((((", 4, 15);
    }

    private static void sixWithinOneAnother() {
        says("At most six of not [ ( within one another.");
        good("may : " + "not ".repeat(6) + "1 = 1;", 1);
        good("may : " + "[".repeat(6) + "1 = 1" + "]".repeat(6) + ";", 1);
        good("may : " + "(".repeat(6) + "1" + ")".repeat(6) + " = 1;", 1);
        good("may : 1 = " + "(".repeat(6) + "1" + ")".repeat(6) + ";", 1);
        good("worth : " + "(".repeat(6) + "1" + ")".repeat(6) + ";", 1);
        good("may : not [not [not [1 = 1]]];", 1);
        good("may : not [not [((1)) = ((1))]] and [[[[[(1) = (1)]]]]];", 1);
        good("worth : ((((((1)))))) * ((((((2)))))) - ((((((3))))));", 1);
        good("may : " + "not ".repeat(6) + "1 = 1 and " + "not ".repeat(6) + "1 = 1 or " + "not ".repeat(6) + "1 = 1;", 1);
        good("may : " + "not ".repeat(5) + "(1) = (1);", 1);
        good("may : [not 1 = 1 and not 1 = 1 and not 1 = 1 and not 1 = 1 and not 1 = 1 and not 1 = 1 and not 1 = 1];", 1);
        good("worth : (1) + (1) + (1) + (1) + (1) + (1) + (1) + (1);", 1);
        good("may : 1 = 1;may : " + "not ".repeat(6) + "1 = 1;worth : ((((((1))))));", 3);
        fault("may : " + "not ".repeat(6) + "1 = (1);", 4, 34);
        fault("may : " + "not ".repeat(6) + "(1) = 1;", 4, 30);
        fault("may : [[[[[[1 = 1] and [1 = 1] and [[1 = 1]]]]]]];", 4, 36);
        fault("worth : (((((1 + (2 * (3))))))));", 4, 22);
        due(of(ONE + "may : not not not not not not 1 = 1;").may(0, 0), 1);
        due(of(ONE + "may : not not not not not 1 = 1;").may(0, 0), 0);
        due(of(ONE + "worth : ((((((7))))));").worth(0, 0), 7);
    }

    private static void truth(String truth, int holds) {
        due(of(ONE + "may : " + truth + ";").may(0, 0), holds);
    }

    private static void truths() {
        says("TRUTH: BOTH { or BOTH }; BOTH: UNIT { and UNIT }; UNIT: not UNIT, [ TRUTH ], or SUM, one of = < >, SUM.");
        truth("0 = 0", 1);
        truth("998 = 999", 0);
        truth("998 < 999", 1);
        truth("999 < 999", 0);
        truth("999 > 999", 0);
        truth("999 > 998", 1);
        truth("1 = 2 or 1 = 2 or 1 = 1", 1);
        truth("1 = 1 and 1 = 1 and 1 = 2", 0);
        truth("1 = 1 or 1 = 1 and 1 = 2", 1);
        truth("1 = 2 and 1 = 1 or 1 = 1", 1);
        truth("1 = 2 and [1 = 1 or 1 = 1]", 0);
        truth("not 1 = 2 or 1 = 1 and 1 = 2", 1);
        truth("not [1 = 2 or 1 = 1] or 1 = 2", 0);
        truth("1 + 1 = 1 * 2", 1);
        truth("(1) = (1)", 1);
        fault("may : 1;", 2, 7);
        fault("may : 1 = 1 = 1;", 2, 12);
        fault("may : 1 = ;", 2, 10);
        fault("may : [1 = 1;", 2, 12);
        fault("may : 1 = 1];", 2, 11);
        fault("may : [];", 2, 7);
        fault("may : ([1 = 1]);", 2, 7);
        fault("may : not;", 2, 9);
        fault("may : 1 = 1 not 1 = 1;", 2, 12);
        fault("may : 1 = 1 and or 1 = 1;", 2, 16);
        fault("may : 1 < = 1;", 2, 10);
    }

    private static void sum(String sum, int worth) {
        due(of(ONE + "worth : " + sum + ";").worth(0, 0), worth);
    }

    private static void sums() {
        says("SUM: TERM { + TERM | - TERM }; TERM: ATOM { * ATOM }; ATOM: N, floor, column, size, light, faults, people, noise, ears, stairs, age, was, times, quarter, ( SUM ).");
        sum("0", 0);
        sum("999", 999);
        sum("1 - 2 - 3", -4);
        sum("1 - (2 - 3)", 2);
        sum("1 + 2 * 3 - 4 * 5", -13);
        sum("(1 + 2) * (3 - 4) * 5", -15);
        sum("((7))", 7);
        fault("worth : 1 + ;", 2, 12);
        fault("worth : + 1;", 2, 8);
        fault("worth : 1 - - 1;", 2, 12);
        fault("worth : 1 * ;", 2, 12);
        fault("worth : (1;", 2, 10);
        fault("worth : 1);", 2, 9);
        fault("worth : (1 = 1);", 2, 11);
        fault("worth : [1];", 2, 8);
        fault("worth : 1 = 1;", 2, 10);
        fault("worth : floor column;", 2, 14);
        for (String name : new String[] {"floor", "column", "size", "light", "faults", "people", "noise", "ears", "stairs", "age", "was", "times", "quarter"}) {
            good("worth : " + name + ";may : " + name + " * " + name + " > (" + name + ");", 2);
            fault("worth : " + name.substring(1) + ";", 2, 8);
            fault("worth : " + name + "s;", 2, 8);
        }
    }
}
