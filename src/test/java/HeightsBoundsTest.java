/** Boundaries of promises 23 to 27: know, high, look, looks, line. */
public final class HeightsBoundsTest extends Bounds {
    private static final String STEPS = "d0123450 w090 w190 w290 w390 w490 w590";
    private static final String ONE = "d0000000w090";
    private static final int[] NO_SETS_OF_SIX = {-1, 64, 127, LEAST, MOST};

    public static void main(String[] args) {
        know();
        knowOfEachKind();
        knowAsThen();
        high();
        look();
        lookByThese();
        lookNone();
        looks();
        line();
        refusedSets("23 know", set -> x -> x.know(set, 0), set -> x -> x.know(set, 2));
        refusedSets("25 look", set -> x -> x.look(set, 0), set -> x -> x.look(set, 2));
        refusedYears("23 know", y -> x -> x.know(0, y));
        refusedYears("24 high", y -> x -> x.high(y));
        refusedYears("25 look", y -> x -> x.look(0, y));
        refusedYears("26 looks", y -> x -> x.looks(y));
        refusedYears("27 line", y -> x -> x.line(y));
        stays();
        end();
    }

    // ---- know

    private static void knows(String boundary, Made made, int set, int y, int heights) {
        tells("23 know", boundary, made, x -> x.know(set, y), heights, Integer.bitCount(heights));
    }

    private static void know() {
        knows("of nobody, of one WOMAN: all HEIGHTS", by(ONE, floods(3)), 0, 0, ALL_HEIGHTS);
        knows("of nobody, of six WOMEN: all HEIGHTS", by(STEPS, floods(3)), 0, 0, ALL_HEIGHTS);
        for (int i = 0; i < 6; i++) {
            knows("WOMAN " + i + " alone", by(STEPS, floods(0)), 1 << i, 0, bits(0, i));
        }
        knows("63: all of six", by(STEPS, floods(0)), 63, 0, 1);
        knows("1: all of one", by(ONE, floods(4)), 1, 0, 1 << 4);
        knows("two of six, the first of them tells", by(STEPS, floods(0)), 8 + 32, 0, bits(0, 3));
        knows("two of six, the second of them tells", by(STEPS, floods(1)), 32 + 1, 0, 2);
        knows("two of whom each tells", by("d0200000w040g190", floods(4)), 3, 0, 1 << 4);
        knows("HEIGHT 0 alone FITS", by(ONE, floods(0)), 1, 0, 1);
        knows("HEIGHT 0 FITS, too", by("d3000000w090", floods(2)), 1, 0, bits(0, 3));
        knows("HEIGHT 1 alone FITS", by(ONE, floods(1)), 1, 0, 2);
        knows("HEIGHT 20 FITS, too", by(ONE, floods(9)), 1, 0, bits(9, 20));
        knows("HEIGHT 20 as 9 where TALL tells", by(ONE, floods(20)), 1, 0, bits(9, 20));
        knows("HEIGHT 17 alone FITS", by("d9000000w090", floods(17)), 1, 0, 1 << 17);
        knows("18, 19, 20 FIT", by("d9000000w090", floods(18)), 1, 0, bits(18, 20));
        knows("up to GROUND 9", by("d9000000w090", floods(9)), 1, 0, bits(0, 9));
        knows("1 above GROUND 9", by("d9000000w090", floods(10)), 1, 0, 1 << 10);
        knows("the first YEAR of three", by(ONE, floods(1, 2, 3)), 1, 0, 2);
        knows("the last YEAR of three", by(ONE, floods(1, 2, 3)), 1, 2, 8);
        knows("YEAR 7 of eight", by(ONE, floods(1, 2, 3, 4, 5, 6, 7, 8)), 1, 7, 1 << 8);
    }

    private static void knowOfEachKind() {
        knows("a BRIDE of HEM 2", by("d0000000b090", floods(0)), 1, 0, bits(0, 2));
        knows("a BRIDE of HEM 3", by("d0000000b090", floods(3)), 1, 0, 1 << 3);
        knows("a BRIDE of TALL 1 knows nothing", by("d0000000b010", floods(0)), 1, 0, ALL_HEIGHTS);
        knows("a GIRL of HEM 3", by("d0000000g090", floods(2)), 1, 0, bits(0, 2));
        knows("a GIRL of HEM 4", by("d0000000g090", floods(3)), 1, 0, 1 << 3);
        knows("a GIRL of HEM 10", by("d0000000g090", floods(9)), 1, 0, bits(9, 20));
        knows("a LIAR of HEM 0", by("d0000000l093", floods(3)), 1, 0, bits(0, 3));
        knows("a LIAR of HEM 1", by("d0000000l093", floods(4)), 1, 0, 1 << 4);
        knows("a LIAR of HEM 6", by("d0000000l093", floods(9)), 1, 0, bits(9, 20));
        knows("a WIDOW below half of TALL", by("d0000000v090", floods(3)), 1, 0, 1 << 3);
        knows("a WIDOW of half of TALL", by("d0000000v090", floods(4)), 1, 0, bits(4, 20));
        knows("a WIDOW of TALL 1 knows nothing", by("d0000000v010", floods(20)), 1, 0, ALL_HEIGHTS);
        knows("an AUNT of a YEAR of an even number", by("d0000000a093", floods(0)), 1, 0, 1);
        knows("an AUNT of a YEAR of an odd number", by("d0000000a093", floods(5, 0)), 1, 1, bits(0, 3));
        knows("an AUNT of YEAR 7", by("d0000000a093", floods(0, 0, 0, 0, 0, 0, 0, 0)), 1, 7, bits(0, 3));
    }

    private static void knowAsThen() {
        knows("her PLACE as it was", by("d0500000w090", floods(0), x -> x.move(0, 1)), 1, 0, 1);
        knows("the GROUND as it was", by("d0000002w090", floods(0), x -> x.dyke(0), x -> x.dyke(0)), 1, 0, 1);
        knows("the TUCK as it was", by("d0000000l090", floods(0), x -> x.tuck(0)), 1, 0, 1);
        knows("her PLACE as it has been since", by("d0500000w090", x -> x.move(0, 1), floods(0)), 1, 0, bits(0, 5));
        knows("the GROUND as it has been since", by("d0000002w090", x -> x.dyke(0), x -> x.dyke(0), floods(0)), 1, 0,
            bits(0, 2));
        knows("the TUCK as it has been since", by("d0000000l090", x -> x.tuck(0), floods(0)), 1, 0, bits(0, 1));
    }

    // ---- high

    private static void highs(String boundary, int high, Made made, int y) {
        answers("24 high", boundary, made, x -> x.high(y), high);
    }

    private static void high() {
        String p = "24 high";
        highs("HEIGHT 0, just one", 0, by(ONE, floods(0)), 0);
        highs("HEIGHT 1, just one", 1, by(ONE, floods(1)), 0);
        highs("HEIGHT 8, just below TALL", 8, by(ONE, floods(8)), 0);
        highs("HEIGHT 17, the highest that may be just one", 17, by("d9000000w090", floods(17)), 0);
        highs("just one by two of whom neither knows it", 4, by("d0200000w040g190", floods(4)), 0);
        highs("just one by the last of six", 0, by("d9999900w010w110w210w310w410w590", floods(0)), 0);
        highs("the first YEAR of three", 1, by(ONE, floods(1, 2, 3)), 0);
        highs("the last YEAR of three", 3, by(ONE, floods(1, 2, 3)), 2);
        highs("YEAR 7 of eight", 8, by(ONE, floods(1, 2, 3, 4, 5, 6, 7, 8)), 7);
        highs("GROUND and PLACE as they were", 5, by("d0900001w090", floods(5), x -> x.dyke(0), x -> x.move(0, 1)), 0);
        none(p, "two FIT: 0, 1", by("d1000000w090", floods(0)), x -> x.high(0));
        none(p, "three FIT: 18, 19, 20", by("d9000000w090", floods(20)), x -> x.high(0));
        none(p, "all FIT", by("d0000000v010", floods(3)), x -> x.high(0));
    }

    // ---- look

    private static void looksAt(String boundary, Made made, int set, int who, int part) {
        tells("25 look", boundary, made, x -> x.look(set, 0), who, part);
    }

    private static void look() {
        looksAt("the only WOMAN", by(ONE, floods(0)), 0, 0, 12);
        looksAt("who tells nothing: all 21 are alike", by("d0000000v010", floods(3)), 0, 0, 21);
        looksAt("20 and 1", by("d0000000w010", floods(3)), 0, 0, 20);
        looksAt("of two like ones the first", by("d0000000w090w090", floods(0)), 0, 0, 12);
        looksAt("of two like ones the one not in the set", by("d0000000w010w010", floods(9)), 1, 1, 20);
        looksAt("of six like ones the last one left", by("d0000000w010w010w010w010w010w010", floods(9)), 31, 5, 20);
        looksAt("the last one tells most", by("d0000000w010w020w030w040w050w060", floods(9)), 0, 5, 15);
        looksAt("the first one tells most", by("d0000000w060w050w040w030w020w010", floods(9)), 0, 0, 15);
        looksAt("the one between tells most", by("d0000000w040w060w050w060w030w020", floods(9)), 0, 1, 15);
        looksAt("who tells most of what those in the set leave open", by("d0000000w010w060w090w090w030w020", floods(9)),
            2, 2, 12);
        for (int i = 0; i < 6; i++) {
            looksAt("WOMAN " + i + " is the only one left", by("d0000000w010w010w010w010w010w010", floods(9)),
                63 - (1 << i), i, 20);
        }
    }

    private static void lookByThese() {
        looksAt("one HEIGHT is known: a part of 1", by("d0000000w090w010", floods(3)), 1, 1, 1);
        looksAt("by the HEIGHTS that these know, not by all", by("d0000000w010w050w030", floods(2)), 2, 0, 1);
        looksAt("by all HEIGHTS, of nobody", by("d0000000w010w050w030", floods(2)), 0, 1, 16);
        looksAt("by HEIGHTS 18 to 20", by("d9000000w090w190", floods(20)), 1, 1, 3);
        looksAt("by HEIGHTS up to 9", by("d9000000w090w180", floods(0)), 1, 1, 2);
        looksAt("her PLACE as it was", by("d0500000w090", floods(0), x -> x.move(0, 1)), 0, 0, 12);
        looksAt("the GROUND as it was", by("d0000001w090", floods(0), x -> x.dyke(0)), 0, 0, 12);
        looksAt("the TUCK as it was", by("d5000000l090", floods(0), x -> x.tuck(0), x -> x.tuck(0), x -> x.tuck(0)), 0,
            0, 7);
        looksAt("her PLACE as it has been since", by("d0500000w090", x -> x.move(0, 1), floods(0)), 0, 0, 7);
        looksAt("the TUCK as it has been since", by("d5000000l092", x -> x.tuck(0), floods(0)), 0, 0, 9);
        looksAt("HEIGHTS up to GROUND 9 are the greatest part", by("d9000000w090", floods(0)), 0, 0, 10);
        looksAt("a GIRL's HEM of 10", by("d0000000g090", floods(9)), 0, 0, 12);
        tells("25 look", "an AUNT of a YEAR of an even number", by("d5000000a093", floods(0, 0, 0)),
            x -> x.look(0, 2), 0, 7);
        tells("25 look", "an AUNT of a YEAR of an odd number", by("d5000000a093", floods(0, 0, 0)),
            x -> x.look(0, 1), 0, 9);
    }

    private static void lookNone() {
        String p = "25 look";
        none(p, "all of one are in it", by(ONE, floods(0)), x -> x.look(1, 0));
        none(p, "all of six are in it", rich(), x -> x.look(63, 1));
        refused(p, "BAD of a YEAR is ahead of NONE", rich(), x -> x.look(63, 2), BAD);
        refused(p, "BAD of a set is ahead of NONE", rich(), x -> x.look(127, 0), BAD);
    }

    // ---- looks

    private static void looksAre(String boundary, Made made, int y, int many, int which) {
        tells("26 looks", boundary, made, x -> x.looks(y), many, which);
    }

    private static void looks() {
        looksAre("nobody, where one tells nothing", by("d0000000v010", floods(9)), 0, 0, 0);
        looksAre("nobody, where six tell nothing", by("d0000000v010v010b010b010g010g010", floods(9)), 0, 0, 0);
        looksAre("the only one", by(ONE, floods(0)), 0, 1, 1);
        looksAre("of two like ones the first", by("d0000000w090w090", floods(0)), 0, 1, 1);
        looksAre("the second one tells more", by("d0000000w010w090", floods(5)), 0, 1, 2);
        looksAre("the last of six tells all", by("d0000000w010w020w030w040w050w060", floods(9)), 0, 1, 32);
        looksAre("two, of whom each tells", by("d0200000w040g190", floods(4)), 0, 2, 3);
        looksAre("two of three, like ones: the least number", by("d0200000w040g190w040", floods(4)), 0, 2, 3);
        looksAre("two of three, the first tells nothing", by("d0200000v010w040g190", floods(4)), 0, 2, 6);
        looksAre("two of six, the last ones", by("d0200000v010v010v010v010w040g190", floods(4)), 0, 2, 48);
        looksAre("two of six, pairs of the least number", by("d0200000v010g190w040v010w040g190", floods(4)), 0, 2, 6);
        looksAre("one where two others would do as well", by("d0200000w040g190w090", floods(4)), 0, 1, 4);
        looksAre("the first YEAR", by("d0000000w010w090", floods(0, 5)), 0, 1, 1);
        looksAre("the last YEAR", by("d0000000w010w090", floods(0, 5)), 1, 1, 2);
        looksAre("YEAR 7 of eight", by("d0000000w010w090", floods(0, 0, 0, 0, 0, 0, 0, 5)), 7, 1, 2);
        looksAre("GROUND, PLACE, TUCK as they were", by("d0000003l010w090", floods(5), x -> x.move(1, 3),
            x -> x.dyke(3), x -> x.tuck(0)), 0, 1, 2);
    }

    // ---- line

    private static void lines(String boundary, String women, int f, int changes, int first) {
        tells("27 line", boundary, by("d0000000" + women, floods(f)), x -> x.line(0), changes, first);
    }

    private static void line() {
        lines("one WOMAN", "w090", 5, 0, 0);
        lines("two as they stand", "w010w020", 9, 0, 0);
        lines("two of like HEMS: the lesser number", "w010w010", 9, 0, 0);
        lines("two who change", "w020w010", 9, 1, 1);
        lines("six as they stand", "w010w020w030w040w050w060", 9, 0, 0);
        lines("six of like HEMS", "w010w010w010w010w010w010", 9, 0, 0);
        lines("six of like HEMS of 0", "w010w020w030w040w050w060", 0, 0, 0);
        lines("six the other way round are the most changes", "w060w050w040w030w020w010", 9, 15, 5);
        lines("the last of six is first", "w020w030w040w050w060w010", 9, 5, 5);
        lines("the first of six is last", "w060w010w020w030w040w050", 9, 5, 1);
        lines("of two that are least the lesser number", "w030w010w010", 9, 2, 1);
        lines("like ones don't change with one another", "w020w020w010", 9, 2, 2);
        lines("two pairs", "w020w010w040w030", 9, 2, 1);
        lines("by HEMS, not by how WET", "b090w090", 1, 1, 1);
        lines("by a GIRL's HEM of 10", "g090w090", 20, 1, 1);
        String p = "27 line";
        Made made = by("d0500000w090w150", floods(3, 9, 20));
        tells(p, "the first YEAR", made, x -> x.line(0), 1, 1);
        tells(p, "the last YEAR", made, x -> x.line(2), 1, 1);
        tells(p, "YEAR 7 of eight", by("d0500000w190w090", floods(3, 3, 3, 3, 3, 3, 3, 0)), x -> x.line(7), 0, 0);
        tells(p, "as they lived then", by("d0500000w090w190", floods(9), x -> x.move(0, 2), x -> x.move(0, 1)),
            x -> x.line(0), 1, 1);
    }

    // ---- refused

    private static void refusedSets(String p, Numbered call, Numbered callOfNoYear) {
        bad(p, "of six: set", rich(), call, NO_SETS_OF_SIX);
        bad(p, "of one: set", by(ONE, floods(1)), call, -1, 2, 3, 63);
        bad(p, "of five: set", by("d0000000w010w010w010w010w010", floods(1)), call, 32);
        bad(p, "of none: set", bare(), call, 0, 1);
        bad(p, "of one where six were: set", fewer(), call, 2, 63);
        bad(p, "of a YEAR that is none: set", rich(), callOfNoYear, 0, 63, 64);
    }

    private static void refusedYears(String p, Numbered call) {
        bad(p, "of two: YEAR", rich(), call, -1, 2, 8, LEAST, MOST);
        bad(p, "of none: YEAR", by(ONE), call, -1, 0, 1);
        bad(p, "of eight: YEAR", by(ONE, floods(new int[8])), call, -1, 8);
        bad(p, "where a flood was undone: YEAR", by(ONE, floods(1, 2), x -> x.undo(1)), call, 1);
        bad(p, "of no WOMEN: YEAR", bare(), call, -1, 0);
        bad(p, "of one where another DELTA had two: YEAR", fewer(), call, 1);
    }

    private static void stays() {
        Call[] calls = {x -> x.know(9, 0), x -> x.look(9, 0), x -> x.looks(1), x -> x.line(1), x -> x.high(0)};
        String[] promises = {"23 know", "25 look", "26 looks", "27 line", "24 high"};
        for (int k = 0; k < calls.length; k++) {
            Call call = calls[k];
            test(promises[k], "nothing but asked() changes", () -> {
                HemLine x = rich().make(), same = rich().make();
                call.on(x);
                is("digest()", x.digest(), same.digest());
                is("upper()", x.upper(), same.upper());
                is("finding()", x.finding(), same.finding());
            });
        }
        test("24 high", "asked() stays", () -> is("asked()", rich(x -> x.high(0)).make().asked(), 7));
    }
}
