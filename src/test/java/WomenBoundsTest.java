/** Boundaries of promises 12 to 15: woman, mark, hem, would; and of the HEMS that the terms tell. */
public final class WomenBoundsTest extends Bounds {
    private static final int[] NO_WOMEN_OF_SIX = {-1, 6, LEAST, MOST};
    private static final int[] NO_HEIGHTS = {-1, 21, LEAST, MOST};

    public static void main(String[] args) {
        woman();
        womanOfHems();
        womanRefused();
        markOfBride();
        markOfLiar();
        markOfWidow();
        markOfGirl();
        markOfAunt();
        markRefused();
        hemsOfEachKind();
        hemsByGround();
        hemsByYear();
        hemAsThen();
        hemRefused();
        would();
        wouldRefused();
        end();
    }

    // ---- woman

    private static void facts(String boundary, Made made, int i, int what, int told) {
        tells("12 woman", boundary, made, x -> x.woman(i, what), 1, told);
    }

    private static void woman() {
        facts("WOMAN 0 is the first", by(SIX), 0, 2, 5);
        facts("WOMAN 5 of 6 is the last", by(SIX), 5, 2, 9);
        facts("0 of 1 is the last", by("d0000000w043"), 0, 2, 4);
        facts("0 is the first that is told: the KIND", by("d0000000a143"), 0, 0, 5);
        facts("KIND 0", by("d0000000w143"), 0, 0, 0);
        facts("1 the PLACE", by("d0000000a143"), 0, 1, 1);
        facts("2 how TALL", by("d0000000a143"), 0, 2, 4);
        facts("3 the TUCK", by("d0000000a143"), 0, 3, 3);
        facts("1 the PLACE where she has moved", by("d0000000a143", x -> x.move(0, 5)), 0, 1, 5);
        facts("1 PLACE 0", by("d0000000a143", x -> x.move(0, 0)), 0, 1, 0);
        facts("2 TALL 1", by("d0000000a113"), 0, 2, 1);
        facts("2 TALL 9", by("d0000000a193"), 0, 2, 9);
        facts("3 the TUCK as it is now", by("d0000000a141", x -> x.tuck(0)), 0, 3, 2);
        facts("3 TUCK 0", by("d0000000a140"), 0, 3, 0);
        facts("4 no HEMS", by("d0000000a143"), 0, 4, 0);
        facts("4 one HEM", by("d0000000a143", floods(0)), 0, 4, 1);
        facts("4 eight HEMS", by("d0000000a143", floods(1, 2, 3, 4, 5, 6, 7, 8)), 0, 4, 8);
        facts("4 HEMS without those undone", by("d0000000a143", floods(1, 2, 3), x -> x.undo(1)), 0, 4, 1);
        facts("4 DEEDS that are no floods make none", by("d0000000a141", x -> x.tuck(0), x -> x.move(0, 0)), 0, 4, 0);
    }

    private static void womanOfHems() {
        facts("5 the greatest of none", by("d0000000g190"), 0, 5, 0);
        facts("5 the greatest of one", by("d0000000w190", floods(4)), 0, 5, 4);
        facts("5 the greatest is the first", by("d0000000w190", floods(7, 4, 0)), 0, 5, 7);
        facts("5 the greatest is the last of eight", by("d0000000w190", floods(0, 1, 2, 3, 4, 5, 6, 7)), 0, 5, 7);
        facts("5 the greatest is between", by("d0000000w190", floods(1, 8, 2)), 0, 5, 8);
        facts("5 the greatest was undone", by("d0000000w190", floods(3, 9), x -> x.undo(1)), 0, 5, 3);
        facts("5 all are 0", by("d0000000w190", floods(0, 0)), 0, 5, 0);
        facts("5 it is a HEM, not how WET", by("d0000000w140", floods(20)), 0, 5, 4);
        facts("5 the greatest that there may be", by("d0000000g190", floods(20)), 0, 5, 10);
        facts("5 as of then", by("d0000009w190", floods(5), x -> x.dyke(1), floods(5)), 0, 5, 5);
    }

    private static void womanRefused() {
        String p = "12 woman";
        bad(p, "of six: WOMAN", rich(), i -> x -> x.woman(i, 0), NO_WOMEN_OF_SIX);
        bad(p, "of one: WOMAN", by("d0000000w043"), i -> x -> x.woman(i, 0), -1, 1, 5);
        bad(p, "of none: WOMAN", bare(), i -> x -> x.woman(i, 0), -1, 0, 1);
        bad(p, "of one where six were: WOMAN", fewer(), i -> x -> x.woman(i, 0), 1, 5);
        bad(p, "what", rich(), what -> x -> x.woman(0, what), -1, 6, LEAST, MOST);
        refused(p, "BAD of both", rich(), x -> x.woman(6, 6), BAD);
        test(p, "nothing but asked() changes", () -> {
            HemLine x = rich().make();
            long digest = x.digest();
            x.woman(1, 5);
            is("digest()", x.digest(), digest);
        });
    }

    // ---- mark

    private static void marks(String boundary, String signs, int kind, int mark, Call... steps) {
        answers("13 mark", boundary, by(signs, steps), x -> x.mark(0, kind), mark);
        test("13 mark", boundary + " (asked() stays)", () -> {
            HemLine x = by(signs, steps).make();
            x.woman(0, 2);
            int told = x.asked();
            x.mark(0, kind);
            is("asked()", x.asked(), told);
        });
    }

    private static void markOfBride() {
        marks("a BRIDE without HEMS", "d0000000b090", 1, 0);
        marks("a BRIDE's HEM that is more by 2 is one", "d0000000b090", 1, 1, floods(0));
        marks("a BRIDE's HEM that is more by 1 is none", "d0000000b090", 1, 0, floods(1));
        marks("a BRIDE's HEM that is no more is none", "d0000000b090", 1, 0, floods(2));
        marks("a BRIDE's HEMS of eight YEARS, all", "d0000000b090", 1, 8, floods(0, 0, 0, 0, 0, 0, 0, 0));
        marks("a BRIDE's HEMS of eight YEARS, the first and the last", "d0000000b090", 1, 2,
            floods(0, 1, 2, 3, 4, 5, 6, 0));
        marks("a BRIDE of TALL 1 is more by 1", "d0000000b010", 1, 0, floods(5));
        marks("a GIRL as a BRIDE, without HEMS", "d0000000g090", 1, 0);
        marks("a GIRL's HEM that is more by 3 is one", "d0000000g090", 1, 1, floods(0));
        marks("a GIRL's HEM that is more by 2 is one", "d0000000g090", 1, 1, floods(1));
        marks("a GIRL's HEM that is more by 1 is none", "d0000000g090", 1, 0, floods(2));
        marks("a BRIDE's GROUND as it was then", "d0000009b090", 1, 1, floods(2), x -> x.dyke(0), x -> x.dyke(0),
            floods(2));
    }

    private static void markOfLiar() {
        marks("a LIAR without HEMS", "d0000000l093", 2, 0);
        marks("a LIAR who was not WET", "d0000000l093", 2, 0, floods(0));
        marks("a LIAR whose HEM is 0 by less than the TUCK", "d0000000l093", 2, 2, floods(2));
        marks("a LIAR whose HEM is 0 by just the TUCK", "d0000000l093", 2, 3, floods(3));
        marks("a LIAR whose HEM is 1", "d0000000l093", 2, 3, floods(4));
        marks("a LIAR without a TUCK", "d0000000l090", 2, 0, floods(9));
        marks("a LIAR, all of eight YEARS", "d0000000l093", 2, 24, floods(9, 9, 9, 9, 9, 9, 9, 9));
        marks("a LIAR, the first and the last of eight YEARS", "d0000000l093", 2, 6, floods(9, 0, 0, 0, 0, 0, 0, 9));
        marks("a LIAR's TUCKS as they were then", "d0000000l091", 2, 3, floods(9), x -> x.tuck(0), floods(9),
            x -> x.tuck(0));
        marks("an AUNT as a LIAR in a YEAR of an even number", "d0000000a093", 2, 0, floods(9));
        marks("an AUNT as a LIAR in a YEAR of an odd number", "d0000000a093", 2, 3, floods(9, 9));
        marks("an AUNT as a LIAR of eight YEARS", "d0000000a093", 2, 12, floods(9, 9, 9, 9, 9, 9, 9, 9));
    }

    private static void markOfWidow() {
        marks("a WIDOW without HEMS", "d0000000v080", 3, 0);
        marks("a WIDOW's HEM that is half of TALL is none", "d0000000v080", 3, 0, floods(4));
        marks("a WIDOW's HEM where half of TALL tells is one", "d0000000v080", 3, 1, floods(5));
        marks("a WIDOW's HEM that is half of TALL, cut, is none", "d0000000v090", 3, 0, floods(4));
        marks("a WIDOW's HEM where half of TALL, cut, tells is one", "d0000000v090", 3, 1, floods(5));
        marks("a WIDOW of TALL 1 is one as soon as she is WET", "d0000000v010", 3, 1, floods(0, 1));
        marks("a WIDOW's HEMS are told by how many, not by how much", "d0000000v090", 3, 2, floods(9, 20));
        marks("a WIDOW, all of eight YEARS", "d0000000v090", 3, 8, floods(9, 9, 9, 9, 9, 9, 9, 9));
        marks("a WIDOW, the first and the last of eight YEARS", "d0000000v090", 3, 2, floods(9, 0, 0, 0, 0, 0, 0, 9));
    }

    private static void markOfGirl() {
        marks("a GIRL without HEMS", "d0000000g090", 4, 0);
        marks("a GIRL's HEM that is 3 more", "d0000000g090", 4, 3, floods(0));
        marks("a GIRL's HEM that is 2 more", "d0000000g090", 4, 2, floods(1));
        marks("a GIRL's HEM that is 1 more", "d0000000g090", 4, 1, floods(2));
        marks("a GIRL's HEM where TALL tells", "d0000000g090", 4, 1, floods(20));
        marks("a GIRL, all of eight YEARS", "d0000000g090", 4, 24, floods(0, 0, 0, 0, 0, 0, 0, 0));
        marks("a GIRL, more in the first and the last of eight YEARS", "d0000000g090", 4, 12,
            floods(0, 5, 5, 5, 5, 5, 5, 0));
    }

    private static void markOfAunt() {
        for (int years = 0; years <= 8; years++) {
            marks("an AUNT, the YEAR that is due is number " + years, "d0000000a093", 5, years % 2,
                floods(new int[years]));
        }
        marks("an AUNT by the YEAR that is due, not by DEEDS", "d0000000a091", 5, 0, x -> x.tuck(0));
        marks("an AUNT where YEARS were undone", "d0000000a091", 5, 1, floods(1, 2, 3, 4), x -> x.undo(1));
    }

    private static void markRefused() {
        String p = "13 mark";
        bad(p, "of six: WOMAN", rich(), i -> x -> x.mark(i, 1), NO_WOMEN_OF_SIX);
        bad(p, "of one: WOMAN", by("d0000000b043"), i -> x -> x.mark(i, 1), -1, 1);
        bad(p, "of none: WOMAN", bare(), i -> x -> x.mark(i, 1), 0);
        bad(p, "of one where six were: WOMAN", fewer(), i -> x -> x.mark(i, 1), 1, 5);
        bad(p, "of a WOMAN: KIND", rich(), kind -> x -> x.mark(0, kind), -1, 0, 6, LEAST, MOST);
        bad(p, "of an AUNT: KIND", rich(), kind -> x -> x.mark(5, kind), -1, 0, 6);
        boolean[][] is = new boolean[6][6];
        for (int k = 1; k < 6; k++) {
            is[k][k] = true;
        }
        is[4][1] = true;
        is[5][2] = true;
        for (int i = 0; i < 6; i++) {
            for (int kind = 1; kind < 6; kind++) {
                int who = i, of = kind;
                if (!is[i][kind]) {
                    finds(p, "a WOMAN of KIND " + i + " is none of " + kind, rich(), x -> x.mark(who, of), UNLIKE);
                } else {
                    answers(p, "a WOMAN of KIND " + i + " is one of " + kind, by(SIX), x -> x.mark(who, of), 0);
                }
            }
        }
        refused(p, "BAD of a WOMAN is ahead of UNLIKE", rich(), x -> x.mark(6, 3), BAD);
        refused(p, "BAD of a KIND (6) is ahead of UNLIKE", rich(), x -> x.mark(1, 6), BAD);
        refused(p, "BAD of a KIND (-1) is ahead of UNLIKE", rich(), x -> x.mark(1, -1), BAD);
        refused(p, "BAD of KIND 0 is ahead of UNLIKE", rich(), x -> x.mark(1, 0), BAD);
    }

    // ---- hem, would

    /** In a YEAR, at GROUND g of PLACE 0: what a flood would make, and makes. */
    private static void hems(String boundary, String woman, int g, int year, int f, int hem) {
        String signs = "d" + g + "000000" + woman;
        answers("15 would", boundary, by(signs, floods(new int[year])), x -> x.would(0, f), hem);
        answers("14 hem", boundary, by(signs, floods(new int[year]), x -> x.flood(f)), x -> x.hem(0, year), hem);
    }

    /** By floods of 0, 1, .. */
    private static void hems(String boundary, String woman, int year, int... hems) {
        for (int f = 0; f < hems.length; f++) {
            hems(boundary + ", flood " + f, woman, 0, year, f, hems[f]);
        }
    }

    private static void hemsOfEachKind() {
        hems("a WOMAN of TALL 4", "w043", 0, 0, 1, 2, 3, 4, 4);
        hems("a WOMAN of TALL 1", "w013", 0, 0, 1, 1);
        hems("a BRIDE of TALL 4", "b043", 0, 2, 2, 2, 3, 4, 4);
        hems("a BRIDE of TALL 2", "b023", 0, 2, 2, 2, 2);
        hems("a BRIDE of TALL 1", "b013", 0, 2, 2, 2, 2);
        hems("a LIAR of TALL 5, TUCK 3", "l053", 0, 0, 0, 0, 0, 1, 2, 2);
        hems("a LIAR of TALL 5, TUCK 1", "l051", 0, 0, 0, 1, 2, 3, 4, 4);
        hems("a LIAR of TALL 5, TUCK 0", "l050", 0, 0, 1, 2, 3, 4, 5, 5);
        hems("a LIAR of TALL 2, TUCK 3", "l023", 0, 0, 0, 0, 0);
        hems("a WIDOW of TALL 5", "v053", 0, 0, 1, 2, 2, 2, 2, 2);
        hems("a WIDOW of TALL 4", "v043", 0, 0, 1, 2, 2, 2, 2);
        hems("a WIDOW of TALL 2", "v023", 0, 0, 1, 1, 1);
        hems("a WIDOW of TALL 1", "v013", 0, 0, 0, 0);
        hems("a GIRL of TALL 4", "g043", 0, 3, 3, 3, 4, 5, 5);
        hems("a GIRL of TALL 1", "g013", 0, 3, 3, 3, 3);
        hems("an AUNT of TALL 5, TUCK 3, as a WOMAN", "a053", 0, 0, 1, 2, 3, 4, 5, 5);
        hems("an AUNT of TALL 5, TUCK 3, as a LIAR", "a053", 1, 0, 0, 0, 0, 1, 2, 2);
        hems("an AUNT of TUCK 0", "a050", 1, 0, 1, 2, 3, 4, 5, 5);
        int[] most = {9, 9, 6, 4, 10, 9};
        for (int kind = 0; kind < 6; kind++) {
            hems("the most: KIND " + kind, "wblvga".charAt(kind) + "093", 0, 0, 20, most[kind]);
        }
    }

    private static void hemsByGround() {
        int[] none = {0, 2, 0, 0, 3, 0};
        for (int kind = 0; kind < 6; kind++) {
            String woman = "wblvga".charAt(kind) + "071";
            hems("GROUND 9, a flood below it: KIND " + kind, woman, 9, 0, 0, none[kind]);
            hems("GROUND 9, a flood just up to it: KIND " + kind, woman, 9, 0, 9, none[kind]);
        }
        hems("GROUND 9, a flood 1 above", "w071", 9, 0, 10, 1);
        hems("GROUND 9, a flood of just TALL", "w071", 9, 0, 16, 7);
        hems("GROUND 9, a flood of 20", "w090", 9, 0, 20, 9);
        hems("GROUND 1, a flood of 1", "w071", 1, 0, 1, 0);
        hems("GROUND 1, a flood of 2", "w071", 1, 0, 2, 1);
        for (int k = 0; k < 6; k++) {
            int f = 3 + k;
            answers("15 would", "each of her own PLACE: WOMAN " + k,
                by("d0123450 w090 w190 w290 w390 w490 w590"), x -> x.would(f - 3, f), 3);
        }
    }

    private static void hemsByYear() {
        for (int year = 0; year < 8; year++) {
            hems("an AUNT in YEAR " + year, "a092", 0, year, 6, year % 2 == 0 ? 6 : 4);
            hems("a LIAR in YEAR " + year, "l092", 0, year, 6, 4);
            hems("a WOMAN in YEAR " + year, "w092", 0, year, 6, 6);
        }
        answers("15 would", "an AUNT, eight YEARS are past", by("d0000000a092", floods(new int[8])), x -> x.would(0, 6),
            6);
        answers("15 would", "an AUNT, a YEAR was undone", by("d0000000a092", floods(0, 0), x -> x.undo(1)),
            x -> x.would(0, 6), 4);
    }

    private static void hemAsThen() {
        String p = "14 hem";
        answers(p, "her PLACE was another one", by("d0500000w090", floods(6), x -> x.move(0, 1)), x -> x.hem(0, 0), 6);
        answers(p, "the GROUND was lower", by("d0000001w090", floods(6), x -> x.dyke(0)), x -> x.hem(0, 0), 6);
        answers(p, "there was a TUCK less", by("d0000000l090", floods(6), x -> x.tuck(0)), x -> x.hem(0, 0), 6);
        answers(p, "her PLACE was another one ahead", by("d0500000w090", x -> x.move(0, 1), floods(6)),
            x -> x.hem(0, 0), 1);
        answers(p, "the GROUND was raised ahead", by("d0000001w090", x -> x.dyke(0), floods(6)), x -> x.hem(0, 0), 5);
        answers(p, "a TUCK was ahead", by("d0000000l090", x -> x.tuck(0), floods(6)), x -> x.hem(0, 0), 5);
        test(p, "each YEAR's own", () -> {
            HemLine x = by("d0000009w090l090", y -> {
                for (int k = 0; k < 8; k++) {
                    y.flood(8 - k % 4);
                    y.dyke(0);
                    y.tuck(1);
                }
                return 0;
            }).make();
            int[] plain = {8, 6, 4, 2, 4, 2, 0, 0}, less = {8, 5, 2, 0, 1, 0, 0, 0};
            for (int y = 0; y < 8; y++) {
                is("hem(0, " + y + ")", x.hem(0, y), plain[y]);
                is("hem(1, " + y + ")", x.hem(1, y), less[y]);
            }
        });
    }

    private static void hemRefused() {
        String p = "14 hem";
        bad(p, "of six: WOMAN", rich(), i -> x -> x.hem(i, 0), NO_WOMEN_OF_SIX);
        bad(p, "of one: WOMAN", by("d0000000w043", floods(1)), i -> x -> x.hem(i, 0), -1, 1);
        bad(p, "of none: WOMAN", bare(), i -> x -> x.hem(i, 0), 0);
        bad(p, "of one where six were: WOMAN", fewer(), i -> x -> x.hem(i, 0), 1, 5);
        bad(p, "of another DELTA's second: YEAR", fewer(), y -> x -> x.hem(0, y), 1);
        bad(p, "no YEAR is past: YEAR", by("d0000000w043"), y -> x -> x.hem(0, y), -1, 0, 1);
        bad(p, "one YEAR is past: YEAR", by("d0000000w043", floods(1)), y -> x -> x.hem(0, y), -1, 1, LEAST, MOST);
        bad(p, "eight YEARS are past: YEAR", by("d0000000w043", floods(new int[8])), y -> x -> x.hem(0, y), -1, 8);
        bad(p, "the flood was undone: YEAR", by("d0000000w043", floods(1, 2), x -> x.undo(1)), y -> x -> x.hem(0, y),
            1);
        answers(p, "WOMAN 5 of 6 is the last", by(SIX, floods(20)), x -> x.hem(5, 0), 9);
        answers(p, "YEAR 0 is the first", by("d0000000w090", floods(1, 2, 3)), x -> x.hem(0, 0), 1);
        answers(p, "the last YEAR", by("d0000000w090", floods(1, 2, 3)), x -> x.hem(0, 2), 3);
        answers(p, "YEAR 7 is the last of all", by("d0000000w090", floods(0, 0, 0, 0, 0, 0, 0, 5)), x -> x.hem(0, 7),
            5);
        test(p, "asked() stays", () -> is("asked()", rich(x -> x.hem(1, 1)).make().asked(), 7));
    }

    private static void would() {
        String p = "15 would";
        answers(p, "WOMAN 0 is the first", by(SIX), x -> x.would(0, 4), 4);
        answers(p, "WOMAN 5 of 6 is the last", by(SIX), x -> x.would(5, 6), 1);
        answers(p, "HEIGHT 0 is the first", by("d0000000w090"), x -> x.would(0, 0), 0);
        answers(p, "HEIGHT 20 is the last", by("d0000000w090"), x -> x.would(0, 20), 9);
        answers(p, "her PLACE as now", by("d0500000w090", x -> x.move(0, 1)), x -> x.would(0, 6), 1);
        answers(p, "the GROUND as now", by("d0000001w090", x -> x.dyke(0)), x -> x.would(0, 6), 5);
        answers(p, "the TUCK as now", by("d0000000l090", x -> x.tuck(0)), x -> x.would(0, 6), 5);
        answers(p, "also when no flood can come any more", by("d0000000w090", floods(new int[8])),
            x -> x.would(0, 6), 6);
        test(p, "nothing changes", () -> {
            HemLine x = rich().make();
            long digest = x.digest();
            x.would(2, 20);
            is("digest()", x.digest(), digest);
            is("asked()", x.asked(), 7);
        });
    }

    private static void wouldRefused() {
        String p = "15 would";
        bad(p, "of six: WOMAN", rich(), i -> x -> x.would(i, 0), NO_WOMEN_OF_SIX);
        bad(p, "of one: WOMAN", by("d0000000w043"), i -> x -> x.would(i, 0), -1, 1);
        bad(p, "of none: WOMAN", bare(), i -> x -> x.would(i, 0), 0);
        bad(p, "of one where six were: WOMAN", fewer(), i -> x -> x.would(i, 0), 1, 5);
        bad(p, "HEIGHT", rich(), f -> x -> x.would(0, f), NO_HEIGHTS);
        refused(p, "BAD of both", rich(), x -> x.would(6, 21), BAD);
    }
}
